/** Of numbers: lowest terms, nothing, how great a box may hold them; of tones, boxes and ports. */
final class NumberEdges extends Edges {
    void go() {
        signOfR();
        lowestTerms();
        lowestTermsOfActs();
        lowestTermsOfLongOnes();
        nothing();
        lastCall();
        greatestP();
        greatestByMore();
        greatestR();
        bigInEachPlace();
        bigOfOnePort();
        greatOnTheWay();
        greatAndLearned();
        greatestAndLearned();
        tonesAndBoxes();
        whichWay();
        end();
    }

    private void signOfR() {
        told(HEAD, "NUMBERS are (p + q i) / r, p, q, r wholes, r above 0");
        boxes(2, 1, 1);
        two(0, n(0), n(1), n(1), n(3));
        one(1, n(1));
        due(0, x.close(2, 0, 1));
        holds(2, 0, 0, 0, -1, 0, 2);
        entry(0, 1, 1, n(2));
        due(0, x.close(2, 0, 1));
        holds(2, 1, 0, 0, -1, 0, 1);
        // By i, and (3 + i) / 3 by -i / 3.
        entry(0, 1, 1, n(1));
        one(1, n(1, -1, 1));
        due(0, x.close(2, 0, 1));
        holds(2, 2, 0, 0, -1, -1, 1);
        one(1, n(3, 1, 3));
        due(0, x.close(2, 0, 1));
        holds(2, 3, 0, 0, -1, 3, 1);
        two(0, n(0), n(-1), n(1), n(0));
        one(1, n(1, 1, 2));
        due(0, x.correct(2, 0, 1));
        holds(2, 0, 0, 0, -1, -1, 2);
    }

    private void lowestTerms() {
        told(HEAD, "in lowest terms (no whole above 1 divides all three");
        boxes(1);
        int[][] given = {{6, -4, 8}, {6, 4, 9}, {6, 9, 4}, {9, 5, 6}, {5, 9, 6}, {30, 42, 105}, {0, 6, 4}, {6, 0, 4}, {-7, 0, 7},
            {1000000, -1000000, 1000000}, {999999, 0, 3}, {-999999, 999999, 1000000}, {0, -1000000, 999999}};
        int[][] lowest = {{3, -2, 4}, {6, 4, 9}, {6, 9, 4}, {9, 5, 6}, {5, 9, 6}, {10, 14, 35}, {0, 3, 2}, {3, 0, 2}, {-1, 0, 1},
            {1, -1, 1}, {333333, 0, 1}, {-999999, 999999, 1000000}, {0, -1000000, 999999}};
        for (int k = 0; k < given.length; k++) {
            due(0, x.set(0, k % 4, 0, 0, given[k][0], given[k][1], given[k][2]));
            holds(0, k % 4, 0, 0, lowest[k][0], lowest[k][1], lowest[k][2]);
            one(0, given[k]);
            holds(0, 3 - k % 4, 0, 0, lowest[k][0], lowest[k][1], lowest[k][2]);
        }
    }

    private void lowestTermsOfActs() {
        told(HEAD, "in lowest terms (no whole above 1 divides all three");
        boxes(2, 1, 1, 2);
        // 10 to the 24, by what shares much with it: all of it, some of it, nothing.
        powers(0, n(1000000), 1);
        one(1, n(-300000, 7000, 1000000));
        due(0, x.close(2, 0, 1));
        holds(2, 0, 0, 0, "-300000000000000000000000", "7000000000000000000000", "1");
        one(1, n(1, 2, 524288));
        due(0, x.close(2, 0, 1));
        holds(2, 1, 0, 0, "1907348632812500000", "3814697265625000000", "1");
        // 999999 is 27 7 11 13 37: 3 is shared by all three.
        one(1, n(3, -3, 999999));
        due(0, x.close(2, 0, 1));
        holds(2, 2, 0, 0, E24, "-" + E24, "333333");
        // p and q share 5, q and r share 3, p and r share 2: no whole divides all three.
        entry(0, 0, 0, n(0));
        entry(0, 1, 1, n(0));
        entry(0, 0, 1, n(1));
        entry(0, 1, 0, n(1));
        one(1, n(10, 15, 6));
        due(0, x.close(2, 0, 1));
        holds(2, 3, 0, 0, 10, 15, 6);
        due(0, x.step(3, 3, 9));
        holdsTwo(3, 2, n(-1, 0, 2), n(3, 0, 2), n(1, 0, 2), n(1, 0, 2));
    }

    /** One port: the digits come six at a time, by what adds six more to a million times what was; box t serves for it. */
    private void build(int box, int t, int... sixDigits) {
        build(box, t, sixDigits, new int[sixDigits.length]);
    }

    private void build(int box, int t, int[] ofP, int[] ofQ) {
        one(box, n(ofP[0], ofQ[0], 1));
        for (int k = 1; k < ofP.length; k++) {
            two(t, n(ofP[k], ofQ[k], 1), n(1000000), n(1), n(0));
            due(0, x.close(box, t, box));
        }
    }

    /** A number of 24 digits times one of 19 by that one: where it is shortened, the first digits tell a digit too much. */
    private void lowestTermsOfLongOnes() {
        told(HEAD, "in lowest terms (no whole above 1 divides all three");
        boxes(1, 1, 1, 1, 1, 1, 2, 2, 2, 1);
        one(1, n(1));
        one(2, n(-1));
        build(4, 6, 1, 0, 0, 1);
        build(5, 6, -1, 0, 0, -1);
        due(0, x.learn(7, 0, 3));
        holds(7, 2, 1, 0, "1000000000000000001", "0", "1");
        due(0, x.correct(4, 7, 1));
        due(0, x.correct(5, 7, 2));
        due(0, x.learn(8, 0, 3));
        holds(8, 2, 1, 0, "1", "0", "1000000000000000001");
        due(0, x.turn(8, 8));
        due(0, x.join(8, 7, 8));
        build(9, 6, 123456, 999999, 999999, 999999);
        due(0, x.close(4, 8, 9));
        holds(4, 0, 0, 0, "123456999999999999999999", "0", "1");
        // And as r: -1 by it. Boxes 3, 4, 5 are 0, it, and less than 0 by as much: learned is what makes it of 1.
        due(0, x.copy(4, 9));
        two(6, n(0), n(1), n(-1), n(0));
        due(0, x.close(5, 6, 4));
        due(0, x.learn(7, 0, 3));
        due(0, x.correct(9, 7, 2));
        due(0, x.close(4, 8, 9));
        holds(4, 1, 0, 0, "-1", "0", "123456999999999999999999");
    }

    private void nothing() {
        told(HEAD, "0 is 0, 0, 1)");
        boxes(1, 2, 1);
        due(0, x.set(0, 3, 0, 0, 0, 0, 1000000));
        holds(0, 3, 0, 0, 0, 0, 1);
        one(0, n(0, 0, 7));
        holds(0, 0, 0, 0, 0, 0, 1);
        two(1, n(-1, 0, 3), n(1, 0, 7), n(7), n(1, 0, 2));
        one(0, n(2, 0, 7));
        // -1 / 3 + (2 / 7) / (6 / 7) is 0.
        due(0, x.close(2, 1, 0));
        holdsAtAll(2, 0, 0, 0, 0, 1);
        for (int tone = 0; tone < 4; tone++) {
            due(0, x.set(0, tone, 0, 0, 1 - 2 * (tone % 2), 0, 3));
        }
        due(0, x.time(2, 0, 0, 0));
        holds(2, 0, 0, 0, 0, 0, 1);
        holds(2, 1, 0, 0, 0, 0, 1);
        holds(2, 2, 0, 0, 1, 0, 3);
        holds(2, 3, 0, 0, 0, 0, 1);
        due(0, x.step(1, 77, 77));
        holds(1, 2, 0, 0, 0, 0, 1);
        holds(1, 2, 1, 1, 0, 0, 1);
        one(0, n(-5, 5, 9));
        entry(1, 0, 0, n(-5, 5, 9));
        due(0, x.correct(2, 1, 0));
        holdsAtAll(2, 0, 0, 0, 0, 1);
    }

    /** The last of 512 calls is answered like the first, and dear ones come before it. */
    private void lastCall() {
        told(HEAD, "An object is used for at most 512 calls after it has been made; what later calls answer is free.");
        boxes(1, 1, 1, 1, 1, 1, 2, 2);
        two(6, n(999983, 1, 999979), n(1, 0, 3), n(2, 5, 7), n(1, 0, 999959));
        one(0, n(1, 0, 999953));
        one(1, n(3, 0, 999931));
        one(2, n(-5, 0, 999883));
        while (x.calls < Bench.MOST_CALLS - 6) {
            for (int k = 0; k < 3; k++) {
                due(0, x.close(3 + k, 6, k));
            }
            due(0, x.learn(7, 0, 3));
        }
        due(1, x.undo());
        due(0, x.set(0, 0, 0, 0, 1, 1, 2));
        while (x.calls < Bench.MOST_CALLS - 1) {
            due(16, x.count(1));
        }
        due(2, x.part(0, 0, 0, 0, 5));
        due(Bench.MOST_CALLS, x.calls);
    }

    private void greatestP() {
        told(TERMS, "BIG: what a BOX would hold has p, q or r beyond 1000000000000000000000000 (10 to the 24);");
        boxes(2, 1, 1);
        powers(0, n(1000000), 1);
        closed(0, n(0), n(1), E24, "0");
        closed(0, n(0), n(-1), "-" + E24, "0");
        closed(0, n(0), n(0, 1, 1), "0", E24);
        closed(0, n(0), n(0, -1, 1), "0", "-" + E24);
        closed(0, n(1, -1, 1), n(-1, 1, 1), "-" + E24_LESS_1, E24_LESS_1);
        closed(0, n(1), n(0, 1, 1), "1", E24);
        closed(0, n(0, -1, 1), n(-1), "-" + E24, "-1");
        int acts = x.count(1);
        tooBig(n(1), n(1));
        tooBig(n(-1), n(-1));
        tooBig(n(0, 1, 1), n(0, 1, 1));
        tooBig(n(0, -1, 1), n(0, -1, 1));
        tooBig(n(1, 0, 3), n(1));
        tooBig(n(0, 1, 3), n(0, -1, 1));
        due(acts, x.count(1));
        where(NONE, NONE);
    }

    /** Beyond by 10 to the 9, 10 to the 12, 10 to the 15 and 10 to the 18: not in the last digits alone. */
    private void greatestByMore() {
        int[] more = {1000, 1000000, 1000000, 1000000};
        int[] times = {1, 1, 1000, 1000000};
        for (int k = 0; k < more.length; k++) {
            told(TERMS, "beyond 1000000000000000000000000 (10 to the 24);");
            boxes(2, 2, 1, 1);
            two(0, n(0), n(more[k]), n(1000000), n(0));
            two(1, n(times[k]), n(1000000), n(1000000), n(0));
            due(0, x.join(0, 0, 1));
            // S00 is as much as it is to be beyond; what goes through and comes back is 10 to the 24 with this.
            entry(0, 0, 1, n(1000000));
            one(2, n(1000000));
            due(BIG, x.close(3, 0, 2));
            holdsAtAll(3, 0, 0, 0, 0, 1);
            one(2, n(-1000000));
            due(0, x.close(3, 0, 2));
            String less = "-" + new java.math.BigInteger(E24).subtract(
                java.math.BigInteger.valueOf(1000000L * more[k] * times[k]));
            holdsAtAll(3, 0, 0, less, "0", "1");
        }
    }

    private void closed(int box, int[] s00, int[] k, String p, String q) {
        entry(box, 0, 0, s00);
        one(1, k);
        due(0, x.close(2, box, 1));
        holds(2, 3, 0, 0, p, q, "1");
    }

    /** What was there, -10 to the 24 less i, stays. */
    private void tooBig(int[] s00, int[] k) {
        entry(0, 0, 0, s00);
        one(1, k);
        due(BIG, x.close(2, 0, 1));
        holds(2, 3, 0, 0, "-" + E24, "-1", "1");
    }

    private void greatestR() {
        told(TERMS, "BIG: what a BOX would hold has p, q or r beyond 1000000000000000000000000 (10 to the 24);");
        boxes(2, 2, 2, 1, 1);
        two(0, n(0), n(1), n(1), n(-1));
        // Box 2 has S11 1 - 10 to the 12, box 3 is 1 + 10 to the 12: 1 less the one times the other is 10 to the 24.
        two(1, n(0), n(1000000), n(1000000), n(1));
        joinWithOnesAcross();
        two(1, n(1), n(1000000), n(1000000), n(0));
        one(4, n(1));
        due(0, x.close(3, 1, 4));
        due(0, x.close(4, 2, 3));
        holds(4, 2, 0, 0, "1000000000001", "0", E24);
        // With 10 to the 12 and its negative it is 10 to the 24 and 1; with 10 to the 12 twice, 1 less.
        one(4, n(1));
        entry(1, 0, 0, n(0));
        due(0, x.close(3, 1, 4));
        joinWithOnesAcross();
        due(BIG, x.close(4, 2, 3));
        holds(4, 2, 0, 0, 1, 0, 1);
        entry(0, 1, 1, n(1));
        joinWithOnesAcross();
        due(0, x.close(4, 2, 3));
        holds(4, 1, 0, 0, "-" + E12, "0", E24_LESS_1);
        // 1 by 10 to the 24, and by twice that.
        powers(1, n(1, 0, 1000000), 2);
        holds(1, 0, 1, 0, "1", "0", E24);
        two(0, n(0), n(1), n(1, 0, 2), n(0));
        due(BIG, x.join(2, 1, 0));
        entry(0, 1, 0, n(2));
        due(0, x.join(2, 1, 0));
        holds(2, 3, 1, 0, "1", "0", "500000000000000000000000");
    }

    private void joinWithOnesAcross() {
        due(0, x.join(2, 0, 1));
        entry(2, 0, 1, n(1));
        entry(2, 1, 0, n(1));
    }

    /** Joined: each of the four numbers alone is too great, at each tone alone; the greatest is not. */
    private void bigInEachPlace() {
        for (int place = 0; place < 4; place++) {
            told(TERMS, "then with BIG if it is so at some TONE.");
            boxes(2, 2, 2, 2);
            int great = place / 3;
            int small = 1 - great;
            int i = place / 2;
            int j = place % 2;
            powers(great, n(1000000), 2);
            if (i == j) {
                // Here both ways of the great one come in: only one of them is great.
                entry(great, 1, 0, n(1));
            }
            entry(small, i, j, n(1));
            for (int tone = 0; tone < 4; tone++) {
                due(0, x.set(small, tone, i, j, 2, 0, 1));
                due(BIG, x.join(2, 0, 1));
                due(1, x.same(2, 3));
                due(0, x.set(small, tone, i, j, 1, 0, 1));
            }
            due(0, x.join(2, 0, 1));
            holdsAtAll(2, i, j, E24, "0", "1");
        }
    }

    private void bigOfOnePort() {
        told(TERMS, "then with BIG if it is so at some TONE.");
        boxes(2, 1, 1, 1);
        powers(0, n(1000000), 1);
        one(1, n(0, 1, 1));
        for (int tone = 0; tone < 4; tone++) {
            due(0, x.set(1, tone, 0, 0, 1, 1000000, 999999));
            due(BIG, x.close(2, 0, 1));
            due(1, x.same(2, 3));
            due(0, x.set(1, tone, 0, 0, 0, 1, 1));
        }
        due(0, x.close(2, 0, 1));
        holds(2, 1, 0, 0, "0", E24, "1");
    }

    private void greatOnTheWay() {
        told(TERMS, "what is met on the way may be as great as it likes.");
        boxes(2, 1, 1, 1, 1, 1, 1, 2, 1);
        // 10 to the 24 by 10 to the 48.
        powers(0, n(1000000), 1);
        one(2, n(1));
        due(0, x.close(1, 0, 2));
        powers(0, n(1000000), 2);
        due(0, x.correct(3, 0, 1));
        holdsAtAll(3, 0, 0, "1", "0", E24);
        // Of the known ones 1, i, -10 to the 24 is read just these.
        one(2, n(1));
        one(3, n(0, 1, 1));
        powers(0, n(1000000), 1);
        one(4, n(-1));
        due(0, x.close(4, 0, 4));
        due(0, x.learn(7, 2, 2));
        holds(7, 2, 0, 0, 0, 0, 1);
        holds(7, 2, 1, 0, 1, 0, 1);
        // 10 to the 24 by 10 to the 24, thrice: all is 1 in the end.
        powers(0, n(1000000), 2);
        powers(7, n(1, 0, 1000000), 2);
        due(0, x.join(0, 0, 7));
        holds(0, 1, 0, 1, 1, 0, 1);
        holds(0, 1, 1, 0, 1, 0, 1);
    }

    /** Of known ones with six digits is read what has 24; in between are some 400. */
    private void greatAndLearned() {
        for (int round = 0; round < 8; round++) {
            told(TERMS, "what is met on the way may be as great as it likes.");
            boxes(2, 1, 1, 1, 1, 1, 1, 2, 1);
            two(0, n(3, -5, 1), n(1), n(1), n(0));
            for (int tone = 0; tone < 4; tone++) {
                int odd = 4 * round + tone;
                due(0, x.set(0, tone, 1, 1, 799999 - 7 * odd, 1 - 699983 + 11 * odd, 899981 - odd));
                for (int k = 0; k < 3; k++) {
                    due(0, x.set(1 + k, tone, 0, 0, 599999 - 1000 * k - odd, 699973 - 99 * k - odd, 899999 - 2 * odd - k));
                }
            }
            for (int k = 0; k < 3; k++) {
                due(0, x.close(4 + k, 0, 1 + k));
            }
            due(0, x.learn(7, 1, 4));
            due(1, x.same(7, 0));
            for (int k = 0; k < 3; k++) {
                due(0, x.correct(8, 7, 4 + k));
                due(1, x.same(8, 1 + k));
            }
        }
    }

    /** Known ones and what is read of these have 24 digits in p, q and r; in between are some 600. */
    private void greatestAndLearned() {
        for (int round = 0; round < 4; round++) {
            told(TERMS, "what is met on the way may be as great as it likes.");
            boxes(1, 1, 1, 1, 1, 1, 2, 2, 2, 1);
            int odd = 2 * round;
            build(4, 6, 123456 - odd, 999999 - odd, 998877 + odd, 999989);
            two(6, n(0), n(1), n(-1), n(0));
            due(0, x.close(5, 6, 4));
            one(0, n(0));
            one(1, n(1));
            one(2, n(-1));
            // Of 0, 1 and -1 is read 0, R and - R: box 7 divides by R what it undoes.
            due(0, x.learn(7, 0, 3));
            for (int k = 0; k < 3; k++) {
                build(k, 6, new int[] {9999 + 100000 * k - odd, 999998 - k, 987654 + odd, 999995 - k},
                    new int[] {-99998 + 90000 * (k % 2), -999989 + odd, -999997, -989796 + k});
                due(0, x.correct(k, 7, k));
            }
            two(8, n(1, 2, 7), n(1), n(3, -4, 7), n(0));
            for (int k = 0; k < 3; k++) {
                due(0, x.close(3 + k, 8, k));
            }
            due(0, x.learn(7, 0, 3));
            due(1, x.same(7, 8));
            due(0, x.correct(9, 7, 4));
            due(1, x.same(9, 1));
        }
    }

    private void tonesAndBoxes() {
        told(TERMS, "TONES are 0 to 3.");
        boxes(1);
        for (int tone = 0; tone < 4; tone++) {
            due(0, x.set(0, tone, 0, 0, tone + 5, 0, 1));
        }
        each(BAD, tone -> x.set(0, tone, 0, 0, 1, 0, 1), -1, 4, LEAST, GREATEST);
        each(BAD, tone -> x.is(0, tone, 1), -1, 4, LEAST, GREATEST);
        each(BAD_PART, tone -> x.part(0, tone, 0, 0, 1), -1, 4, LEAST, GREATEST);
        each(BAD_AGAINST, tone -> x.against(tone, 0, 0, 0, 0, 0, 0), -1, 4, LEAST, GREATEST);
        for (int tone = 0; tone < 4; tone++) {
            holds(0, tone, 0, 0, tone + 5, 0, 1);
        }

        told(TERMS, "BOXES 0, 1, .. as they come, 16 at most,");
        for (int k = 0; k < 16; k++) {
            due(BAD, x.set(k, 0, 0, 0, 1, 0, 1));
            due(k, x.box(1 + k / 3 % 2));
            due(0, x.set(k, 0, 0, 0, 1, 0, 1));
        }
        due(FULL, x.box(1));
        due(FULL, x.box(2));
        due(BAD, x.set(16, 0, 0, 0, 1, 0, 1));
        due(16, x.count(0));

        told(TERMS, "have one PORT or two,");
        boxes(1, 2);
        due(1, x.about(0, 0));
        due(2, x.about(1, 0));
        each(BAD, ports -> x.box(ports), 0, 3, -1, -2, LEAST, GREATEST);
        due(2, x.count(0));

        told(TERMS, "and at each TONE a NUMBER S i j for each of their PORTS i, j (from 0 on; 0 at first):");
        boxes(2, 1, 2);
        for (int entry = 0; entry < 4; entry++) {
            holdsAtAll(2, entry / 2, entry % 2, 0, 0, 1);
        }
        holdsAtAll(1, 0, 0, 0, 0, 1);
        each(BAD_PART, port -> x.part(0, 0, port, 1, 5), -1, 2, LEAST, GREATEST);
        each(BAD_PART, port -> x.part(0, 0, 1, port, 5), -1, 2, LEAST, GREATEST);
        each(BAD_PART, port -> x.part(1, 0, port, 0, 5), -1, 1, 2, LEAST, GREATEST);
        each(BAD_PART, port -> x.part(1, 0, 0, port, 5), -1, 1, 2, LEAST, GREATEST);
        for (int k = 0; k < 64; k++) {
            due(0, x.set(2, k % 4, k / 4 % 2, k / 8 % 2, k, 0, 1));
        }
        for (int k = 48; k < 64; k++) {
            due(k, x.part(2, k % 4, k / 4 % 2, k / 8 % 2, 1));
        }
        holdsAtAll(0, 1, 1, 0, 0, 1);
    }

    private void whichWay() {
        told(TERMS, "how much of a wave that goes in at j comes out at i.");
        boxes(2, 2, 2);
        // What goes in at port 1 of the second comes out at port 0 of the first, and nothing the other way.
        two(0, n(0), n(3), n(0), n(0));
        two(1, n(0), n(5), n(0), n(0));
        due(0, x.join(2, 0, 1));
        holdsTwo(2, 3, n(0), n(15), n(0), n(0));
        two(1, n(0), n(0), n(5), n(0));
        due(0, x.join(2, 0, 1));
        holdsTwo(2, 3, n(0), n(0), n(0), n(0));
        two(0, n(0), n(0), n(3), n(0));
        due(0, x.join(2, 0, 1));
        holdsTwo(2, 3, n(0), n(0), n(15), n(0));
    }
}
