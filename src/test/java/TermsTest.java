/** "Terms": what a node and a track can have, and what a track sets at which time, to the last unit. */
public final class TermsTest {
    private static final int NONE = MotionDesk.NONE;
    private static final int STEPS = 0;
    private static final int STRAIGHT = 1;
    private static final int SMOOTH = 2;
    private static final Answers ANSWERS = new Answers();

    public static void main(String[] args) {
        whatANodeCanHave();
        whatATrackCanBeFor();
        eachHowIsItsOwn();
        timesOfATrack();
        numbersOfATrack();
        nothingThere();
        beforeItsFirstKey();
        aFirstKeyAtTheVeryEnds();
        atItsLastKeyOrBehind();
        aLastKeyAtTheVeryEnds();
        oneKeyIsFirstAndLast();
        theLastOfThirtyTwo();
        fromOneKeyToTheNext();
        keysOneApart();
        bySteps();
        straight();
        divStraight();
        smooth();
        mulSmooth();
        divAndMulOfTheWay();
        straightInLongs();
        smoothInLongs();
        theWayInLongs();
        laterTracksWin();
        theTimeThatItIs();
        timesThatGoBack();
        ANSWERS.end();
    }

    /** A desk with one track, for node 1; each key is a time and three numbers. */
    private static Desk deskWithTrack(int what, int how, int[]... keys) {
        Desk desk = new Desk(2);
        for (int[] k : keys) {
            desk.key(k[0], k[1], k[2], k[3]);
        }
        desk.track(1, what, how);
        return desk;
    }

    private static int[] key(int time, int x, int y, int z) {
        return new int[] {time, x, y, z};
    }

    private static void at(Desk desk, int what, int t, int x, int y, int z) {
        // Otherwise a track that sets nothing at this time would leave what it set before, which may be the same.
        desk.set(1, what, 777777, 777778, 777779);
        ANSWERS.due(desk, desk.time(t), true);
        ANSWERS.dueThree(desk, 1, what, x, y, z);
    }

    /** Of a MOVE, a TURN and a SIZE. */
    private static final int[] REACH = {4194304, 1048576, 1048576};

    private static void whatANodeCanHave() {
        ANSWERS.says("A NODE has a MOVE (what 0; 3 numbers -4194304 .. 4194304), a TURN (1; -1048576 .. 1048576)"
                + " and a SIZE (2; -1048576 .. 1048576)");
        for (int what = 0; what < 3; what++) {
            int most = REACH[what];
            Desk desk = new Desk(2);
            ANSWERS.due(desk, desk.set(1, what, most, -most, most - 1), true);
            ANSWERS.dueThree(desk, 1, what, most, -most, most - 1);
            ANSWERS.due(desk, desk.set(1, what, most + 1, 0, 0), false);
            ANSWERS.due(desk, desk.set(1, what, 0, -most - 1, 0), false);
            ANSWERS.due(desk, desk.set(1, what, 0, 0, most + 1), false);
            ANSWERS.dueThree(desk, 1, what, most, -most, most - 1);
            // Three whats and three numbers each, and no more.
            ANSWERS.due(desk, desk.value(1, what, 3), 0);
            ANSWERS.due(desk, desk.set(1, what + 3, 1, 1, 1), false);
        }
    }

    private static void whatATrackCanBeFor() {
        ANSWERS.says("A TRACK has a node, WHAT 0, 1 or 2, HOW 0 (by steps), 1 (straight), 2 (smooth)");
        for (int k = 0; k < 27; k++) {
            Desk desk = new Desk(3);
            desk.key(7, 1, 2, 3);
            ANSWERS.due(desk, desk.track(k / 9, k / 3 % 3, k % 3), 0);
            ANSWERS.due(desk, desk.about(0, 0), k / 9);
            ANSWERS.due(desk, desk.about(0, 1), k / 3 % 3);
            ANSWERS.due(desk, desk.about(0, 2), k % 3);
            desk.time(7);
            for (int place = 0; place < 9; place++) {
                int rest = place % 3 == 2 ? 65536 : 0;
                boolean isSet = place == k / 3;
                ANSWERS.dueThree(desk, place / 3, place % 3, isSet ? 1 : rest, isSet ? 2 : rest, isSet ? 3 : rest);
            }
        }
    }

    private static void eachHowIsItsOwn() {
        ANSWERS.says("HOW 0 (by steps), 1 (straight), 2 (smooth)");
        // A quarter of the way: none of it, a quarter, and 10240 of 65536.
        int[] want = {0, 16384, 10240};
        for (int how = 0; how < 3; how++) {
            Desk desk = deskWithTrack(0, how, key(0, 0, 0, 0), key(4, 65536, 65536, 65536));
            at(desk, 0, 1, want[how], want[how], want[how]);
        }
    }

    private static void timesOfATrack() {
        ANSWERS.says("TIMES 0 .. 1000000 that grow");
        Desk desk = new Desk(2);
        ANSWERS.due(desk, desk.key(-1, 9, 9, 9), NONE);
        ANSWERS.due(desk, desk.key(0, 1, 1, 1), 1);
        ANSWERS.due(desk, desk.key(0, 9, 9, 9), NONE);
        ANSWERS.due(desk, desk.key(500, 2, 2, 2), 2);
        ANSWERS.due(desk, desk.key(499, 9, 9, 9), NONE);
        ANSWERS.due(desk, desk.key(1000001, 9, 9, 9), NONE);
        ANSWERS.due(desk, desk.key(1000000, 3, 3, 3), 3);
        ANSWERS.due(desk, desk.track(1, 0, STEPS), 0);
        ANSWERS.due(desk, desk.about(0, 3), 3);
        at(desk, 0, 0, 1, 1, 1);
        at(desk, 0, 499, 1, 1, 1);
        at(desk, 0, 500, 2, 2, 2);
        at(desk, 0, 999999, 2, 2, 2);
        at(desk, 0, 1000000, 3, 3, 3);
    }

    private static void numbersOfATrack() {
        ANSWERS.says("and 3 numbers each, which the node can have there");
        for (int what = 0; what < 3; what++) {
            int most = REACH[what];
            for (int how = 0; how < 3; how++) {
                Desk desk = deskWithTrack(what, how, key(0, -most, most, 1), key(2, most, -most, 3));
                ANSWERS.due("behind it: count(1)", desk.count(1), 1);
                at(desk, what, 0, -most, most, 1);
                at(desk, what, 2, most, -most, 3);
            }
            Desk above = deskWithTrack(what, STEPS, key(0, 0, 0, 0), key(2, 0, 0, most + 1));
            // Of a move such a key does not come at all, and the one before it is a track alone.
            ANSWERS.due(above, above.count(2), what == 0 ? 1 : 0);
            Desk below = deskWithTrack(what, STEPS, key(0, -most - 1, 0, 0));
            ANSWERS.due(below, below.count(2), 0);
        }
    }

    private static void nothingThere() {
        ANSWERS.says("The constants: `NONE = -1`: Nothing there");
        Desk desk = new Desk(1);
        ANSWERS.due("NONE", NONE, -1);
        ANSWERS.due(desk, desk.key(-1, 0, 0, 0), -1);
        ANSWERS.due(desk, desk.track(0, 0, 0), -1);
        ANSWERS.due(desk, desk.count(5), -1);
        ANSWERS.due(desk, desk.about(0, 0), -1);
    }

    private static void beforeItsFirstKey() {
        ANSWERS.says("before its first key, and at its last one or behind it, that key's numbers");
        int[] firsts = {1, 2, 500, 999990};
        for (int first : firsts) {
            for (int k = 0; k < 9; k++) {
                int what = k / 3;
                Desk desk = deskWithTrack(what, k % 3, key(first, 10, 20, -30), key(first + 10, 110, -80, 1030));
                at(desk, what, 0, 10, 20, -30);
                at(desk, what, first / 2, 10, 20, -30);
                at(desk, what, first - 1, 10, 20, -30);
                at(desk, what, first, 10, 20, -30);
            }
        }
    }

    private static void aFirstKeyAtTheVeryEnds() {
        ANSWERS.says("before its first key, and at its last one or behind it, that key's numbers");
        for (int how = 0; how < 3; how++) {
            Desk late = deskWithTrack(0, how, key(999999, 1, 2, 3), key(1000000, 4, 5, 6));
            at(late, 0, 0, 1, 2, 3);
            at(late, 0, 999998, 1, 2, 3);
            at(late, 0, 999999, 1, 2, 3);
            at(late, 0, 1000000, 4, 5, 6);
            Desk early = deskWithTrack(0, how, key(0, 1, 2, 3), key(1000000, 4, 5, 6));
            at(early, 0, 0, 1, 2, 3);
        }
    }

    private static void atItsLastKeyOrBehind() {
        ANSWERS.says("before its first key, and at its last one or behind it, that key's numbers");
        int[] lasts = {10, 500, 999990};
        for (int last : lasts) {
            for (int k = 0; k < 9; k++) {
                int what = k / 3;
                Desk desk = deskWithTrack(what, k % 3, key(last - 10, 10, 20, -30), key(last, 110, -80, 1030));
                at(desk, what, last, 110, -80, 1030);
                at(desk, what, last + 1, 110, -80, 1030);
                at(desk, what, last + 10, 110, -80, 1030);
                at(desk, what, 1000000, 110, -80, 1030);
            }
        }
        // One time before its last key it is still on its way.
        at(deskWithTrack(0, STEPS, key(0, 10, 20, -30), key(10, 110, -80, 1030)), 0, 9, 10, 20, -30);
        at(deskWithTrack(0, STRAIGHT, key(0, 10, 20, -30), key(10, 110, -80, 1030)), 0, 9, 100, -70, 924);
    }

    private static void aLastKeyAtTheVeryEnds() {
        ANSWERS.says("before its first key, and at its last one or behind it, that key's numbers");
        for (int how = 0; how < 3; how++) {
            Desk late = deskWithTrack(0, how, key(0, 0, 0, 0), key(1000000, 1000000, -1000000, 7));
            at(late, 0, 1000000, 1000000, -1000000, 7);
            Desk early = deskWithTrack(0, how, key(0, 1, 2, 3), key(1, 4, 5, 6));
            at(early, 0, 1, 4, 5, 6);
            at(early, 0, 2, 4, 5, 6);
            at(early, 0, 1000000, 4, 5, 6);
        }
    }

    private static void oneKeyIsFirstAndLast() {
        ANSWERS.says("before its first key, and at its last one or behind it, that key's numbers");
        int[] places = {0, 1, 30, 999999, 1000000};
        for (int place : places) {
            for (int k = 0; k < 9; k++) {
                Desk desk = deskWithTrack(k / 3, k % 3, key(place, 3, -4, 5));
                at(desk, k / 3, 0, 3, -4, 5);
                at(desk, k / 3, Math.max(0, place - 1), 3, -4, 5);
                at(desk, k / 3, place, 3, -4, 5);
                at(desk, k / 3, Math.min(1000000, place + 1), 3, -4, 5);
                at(desk, k / 3, 1000000, 3, -4, 5);
            }
        }
    }

    private static void theLastOfThirtyTwo() {
        ANSWERS.says("before its first key, and at its last one or behind it, that key's numbers");
        int[][] keys = new int[32][];
        for (int k = 0; k < 32; k++) {
            keys[k] = key(10 + 10 * k, 100 * k, -100 * k, k);
        }
        for (int how = 0; how < 3; how++) {
            Desk desk = deskWithTrack(0, how, keys);
            // A track behind it: its keys must not be taken for this one's.
            desk.key(330, 7, 7, 7);
            desk.key(340, 8, 8, 8);
            desk.track(0, 0, how);
            at(desk, 0, 9, 0, 0, 0);
            at(desk, 0, 310, 3000, -3000, 30);
            at(desk, 0, 320, 3100, -3100, 31);
            at(desk, 0, 325, 3100, -3100, 31);
            at(desk, 0, 330, 3100, -3100, 31);
        }
    }

    private static Desk deskWithThreeKeys(int what, int how) {
        return deskWithTrack(what, how, key(10, 0, 100, -100), key(20, 100, 0, -205), key(50, -7, 7, 0));
    }

    private static void fromOneKeyToTheNext() {
        ANSWERS.says("else, with keys at s and e (s <= t < e) and numbers a and b");
        for (int k = 0; k < 9; k++) {
            int what = k / 3;
            Desk desk = deskWithThreeKeys(what, k % 3);
            at(desk, what, 10, 0, 100, -100);
            at(desk, what, 20, 100, 0, -205);
            at(desk, what, 50, -7, 7, 0);
        }
        Desk steps = deskWithThreeKeys(0, STEPS);
        at(steps, 0, 19, 0, 100, -100);
        at(steps, 0, 20, 100, 0, -205);
        at(steps, 0, 49, 100, 0, -205);
        Desk straight = deskWithThreeKeys(0, STRAIGHT);
        at(straight, 0, 19, 90, 10, -195);
        at(straight, 0, 21, 96, 0, -199);
    }

    private static void keysOneApart() {
        ANSWERS.says("with keys at s and e (s <= t < e)");
        for (int how = 0; how < 3; how++) {
            Desk desk = deskWithTrack(0, how, key(5, 1, 2, 3), key(6, -1, -2, -3), key(7, 4194304, -4194304, 0));
            at(desk, 0, 4, 1, 2, 3);
            at(desk, 0, 5, 1, 2, 3);
            at(desk, 0, 6, -1, -2, -3);
            at(desk, 0, 7, 4194304, -4194304, 0);
            at(desk, 0, 8, 4194304, -4194304, 0);
        }
    }

    private static void bySteps() {
        ANSWERS.says("by steps a");
        for (int what = 0; what < 3; what++) {
            Desk desk = deskWithThreeKeys(what, STEPS);
            at(desk, what, 11, 0, 100, -100);
            at(desk, what, 15, 0, 100, -100);
            at(desk, what, 19, 0, 100, -100);
            at(desk, what, 21, 100, 0, -205);
            at(desk, what, 49, 100, 0, -205);
        }
    }

    private static void straight() {
        ANSWERS.says("straight a + DIV((b - a) * (t - s), e - s)");
        for (int what = 0; what < 3; what++) {
            Desk desk = deskWithThreeKeys(what, STRAIGHT);
            // -105 * 1 / 10 is -10.5, and goes down to -11.
            at(desk, what, 11, 10, 90, -111);
            at(desk, what, 19, 90, 10, -195);
            // -107 / 30 is -3.57, 7 / 30 is 0.23, 205 / 30 is 6.83.
            at(desk, what, 21, 96, 0, -199);
            // -107 * 29 / 30 is -103.43, 7 * 29 / 30 is 6.77, 205 * 29 / 30 is 198.17.
            at(desk, what, 49, -4, 6, -7);
        }
    }

    private static void divStraight() {
        ANSWERS.says("DIV(a, b): the greatest whole number that is not above a / b");
        // Ways of 1, 7 and 10 in ten times: above 0 with and without a rest.
        Desk up = deskWithTrack(0, STRAIGHT, key(0, 0, 0, 0), key(10, 1, 7, 10));
        at(up, 0, 1, 0, 0, 1);
        at(up, 0, 2, 0, 1, 2);
        at(up, 0, 5, 0, 3, 5);
        at(up, 0, 9, 0, 6, 9);
        // The same below 0: with a rest one more down, without one not.
        Desk down = deskWithTrack(0, STRAIGHT, key(0, 0, 0, 0), key(10, -1, -7, -10));
        at(down, 0, 1, -1, -1, -1);
        at(down, 0, 2, -1, -2, -2);
        at(down, 0, 5, -1, -4, -5);
        at(down, 0, 9, -1, -7, -9);
        // The way is divided, not the sum: a itself is as it is.
        Desk low = deskWithTrack(0, STRAIGHT, key(0, -100, -100, -100), key(10, -99, -101, -110));
        at(low, 0, 0, -100, -100, -100);
        at(low, 0, 1, -100, -101, -101);
        at(low, 0, 9, -100, -101, -109);
        at(low, 0, 10, -99, -101, -110);
    }

    private static void smooth() {
        ANSWERS.says("smooth, f being DIV((t - s) * 65536, e - s) and g MUL(MUL(f, f), 196608 - 2 * f): a + MUL(b - a, g)");
        for (int what = 0; what < 3; what++) {
            Desk desk = deskWithThreeKeys(what, SMOOTH);
            // f 32768, g 32768: half of 100, of -100, and of -105 (-52.5, down to -53).
            at(desk, what, 15, 50, 50, -153);
            // f 6553, f * f / 65536 655, g 1834: 2.79, -2.79 and -2.93, each down.
            at(desk, what, 11, 2, 97, -103);
        }
    }

    private static void mulSmooth() {
        ANSWERS.says("MUL(a, b) is DIV(a * b, 65536)");
        // g is 1834, 32768 and 63700 of 65536.
        Desk up = deskWithTrack(0, SMOOTH, key(0, 0, 0, 0), key(10, 1, 2, 65536));
        at(up, 0, 1, 0, 0, 1834);
        at(up, 0, 5, 0, 1, 32768);
        at(up, 0, 9, 0, 1, 63700);
        Desk down = deskWithTrack(0, SMOOTH, key(0, 0, 0, 0), key(10, -1, -2, -65536));
        at(down, 0, 1, -1, -1, -1834);
        at(down, 0, 5, -1, -1, -32768);
        at(down, 0, 9, -1, -2, -63700);
        // At s the way is MUL(b - a, 0), which is 0 below 0 too.
        at(up, 0, 0, 0, 0, 0);
        at(down, 0, 0, 0, 0, 0);
    }

    /** The way is 65536, so that what is set is g itself. */
    private static void dueG(int passed, int whole, int g) {
        Desk desk = deskWithTrack(1, SMOOTH, key(0, 0, 0, 65536), key(whole, 65536, -65536, 0));
        at(desk, 1, passed, g, -g, 65536 - g);
    }

    private static void divAndMulOfTheWay() {
        ANSWERS.says("f being DIV((t - s) * 65536, e - s) and g MUL(MUL(f, f), 196608 - 2 * f)");
        // Each of the three divisions has a rest; one rounded up or to the nearest would give another g.
        dueG(1, 3, 16989);
        dueG(2, 3, 48543);
        dueG(1, 7, 3629);
        dueG(3, 7, 25791);
        dueG(6, 7, 61904);
        dueG(3, 10, 14152);
        dueG(7, 10, 51379);
        dueG(3, 100, 170);
        dueG(6, 100, 676);
        // f so small that its square is 0, and so great that g is the last below 65536.
        dueG(1, 1000, 0);
        dueG(4, 1000, 2);
        dueG(999, 1000, 65535);
        dueG(1, 1000000, 0);
        dueG(999999, 1000000, 65535);
        dueG(1000000, 1000000, 65536);
    }

    private static void straightInLongs() {
        ANSWERS.says("All is worked out in longs");
        Desk desk = deskWithTrack(0, STRAIGHT,
                key(0, -4194304, 4194304, -4194304), key(1000000, 4194304, -4194304, 4194303));
        // 8388608 times 255 is an int's still, times 256 not any more.
        at(desk, 0, 255, -4192165, 4192164, -4192165);
        at(desk, 0, 256, -4192157, 4192156, -4192157);
        at(desk, 0, 500000, 0, 0, -1);
        // 8388608 * 0.999999 is 8388599.61, 8388607 * 0.999999 is 8388598.61.
        at(desk, 0, 999999, 4194295, -4194296, 4194294);
    }

    private static void smoothInLongs() {
        ANSWERS.says("All is worked out in longs");
        Desk desk = deskWithTrack(0, SMOOTH,
                key(0, -4194304, 4194304, -4194304), key(1000000, 4194304, -4194304, 4194303));
        at(desk, 0, 500000, 0, 0, -1);
        // f 65535, f * f / 65536 65534, g 65534 * 65538 / 65536 = 65535: 8388480.
        at(desk, 0, 999999, 4194176, -4194176, 4194175);
    }

    private static void theWayInLongs() {
        ANSWERS.says("All is worked out in longs");
        // 65536 times 32767 is an int's still, times 32768 not any more.
        dueG(32767, 1000000, 205);
        dueG(32768, 1000000, 205);
        dueG(40000, 1000000, 303);
        // f is 39976: its square is an int's still, but 24384 * 116656 not any more.
        dueG(610000, 1000000, 43404);
        // f is 43690 and 56173: the first square is an int's still, the second not any more.
        dueG(2, 3, 48543);
        dueG(6, 7, 61904);
    }

    private static void laterTracksWin() {
        ANSWERS.says("each track, in order, sets what it is for");
        Desk two = deskWithTrack(0, STEPS, key(0, 1, 1, 1));
        two.key(500, 2, 2, 2);
        two.track(1, 0, STEPS);
        at(two, 0, 0, 2, 2, 2);
        at(two, 0, 700, 2, 2, 2);
        Desk all = new Desk(2);
        for (int k = 0; k < 32; k++) {
            all.key(0, 100 + k, 200 + k, 300 + k);
            all.track(1, 0, k % 3);
            at(all, 0, k, 100 + k, 200 + k, 300 + k);
        }
    }

    private static void theTimeThatItIs() {
        ANSWERS.says("With each time(t), also with the one that it is");
        int[] times = {0, 1, 500, 1000000};
        for (int t : times) {
            Desk desk = deskWithTrack(0, STEPS, key(0, 1, 1, 1));
            if (t != 0) {
                desk.time(t);
                desk.set(1, 0, 9, 9, 9);
            }
            // At first it is 0, and time(0) is told with that very time.
            at(desk, 0, t, 1, 1, 1);
            desk.set(1, 0, 8, 8, 8);
            at(desk, 0, t, 1, 1, 1);
        }
    }

    private static void timesThatGoBack() {
        ANSWERS.says("With each time(t), also with the one that it is");
        Desk desk = deskWithThreeKeys(0, STRAIGHT);
        at(desk, 0, 1000000, -7, 7, 0);
        at(desk, 0, 20, 100, 0, -205);
        at(desk, 0, 19, 90, 10, -195);
        at(desk, 0, 0, 0, 100, -100);
        at(desk, 0, 1000000, -7, 7, 0);
    }
}
