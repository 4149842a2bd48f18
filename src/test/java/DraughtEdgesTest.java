/** The edges of what pushes, flows and would be: each sentence of NOW and of part II that names one. */
public final class DraughtEdgesTest {
    /** Ten holes and doors of every kind in six rooms: 80 letters are too few, so it is told in two houses. */
    private static final String[] FULL = {"n6;h0s301,5;h0p940,0;d015;d129;h1c202,9;h2w230,20;", "h3f453,7;d342;h4l501,3;h5t180,30;"};
    private static final String TWO_HOLES = "n1;h0p150,7;h0p100,3;";

    public static void main(String[] args) {
        nowAtFirst();
        setFromLeastToMost();
        fanFromLeastToMost();
        heightsFrom0To9();
        windBySides();
        halfIsCut();
        kindsUnderKinds();
        kindsAtTheirFarthest();
        rootsAreCut();
        farRoots();
        inAndOut();
        roundsAre200();
        pushesMoveByOne();
        roomByRoom();
        coalOfHolesAlone();
        coalAtWarm0();
        smokeByNothingOrIn();
        leanByTheLeastFlow();
        stoppedIsSizeZero();
        stoppedBits();
        bestForSoMuchCoin();
        bestOfThreeAtMost();
        bestOfSeveral();
        bestWithoutSmoke();
        pairsOfWhichOneAloneDoesNothing();
        pairsOfHolesAlone();
        shutEitherWay();
        chairOfSeveral();
        fingerBelow9();
        fingerThatFlowsInThen();
        fingerOfSeveral();
        numberWithoutWarmAndWind();
        winterOfAllWeathers();
        turnsAboutInSomeWeathers();
        sizesThatAreFelt();
        hiddenInTheLeastRoom();
        hiddenIsNotThereBehind();
        daysFrom1To30();
        drawsOfAnInt();
        judgedShortAndLong();
        Due.end();
    }

    private static DraughtsByCandle full() {
        DraughtsByCandle x = Due.housed(FULL[0]);
        Due.tell(x, FULL[1]);
        Due.is("ten are told", x.count(1), 10);
        return x;
    }

    private static DraughtsByCandle fullIn(int warm, int wind, int side, int fan) {
        DraughtsByCandle x = full();
        air(x, warm, wind, side, fan);
        return x;
    }

    private static void air(DraughtsByCandle x, int warm, int wind, int side, int fan) {
        x.set(0, warm);
        x.set(1, wind);
        x.set(2, side);
        x.fan(fan);
    }

    /** All that flows in by holes, by what flow() tells. */
    private static int inflow(DraughtsByCandle x) {
        int all = 0;
        for (int i = 0; i < x.count(1); i++) {
            if (x.hole(i, 2) != 7) all += Math.max(0, x.flow(i));
        }
        return all;
    }

    private static int root(int square) {
        int root = 0;
        while ((root + 1) * (root + 1) <= square) root++;
        return root;
    }

    // ---- NOW

    private static void nowAtFirst() {
        Due.sentence("NOW: WARM (10 at first), WIND (0), SIDE (0), FAN (0)");
        DraughtsByCandle x = new DraughtsByCandle();
        int[] first = {10, 0, 0, 0};
        for (int what = 0; what < 4; what++) Due.is("now(" + what + ")", x.now(what), first[what]);
    }

    private static void setFromLeastToMost() {
        Due.sentence("WARM (0 .. 40), WIND (0 .. 20), SIDE (0 .. 3): what it was. -4; -6");
        int[] most = {40, 20, 3};
        for (int what = 0; what < 3; what++) {
            DraughtsByCandle x = new DraughtsByCandle();
            int was = what == 0 ? 10 : 0;
            for (int v = 0; v <= most[what]; v++) {
                Due.is("set(" + what + ", " + v + ")", x.set(what, v), was);
                Due.is("now(" + what + ")", x.now(what), v);
                was = v;
            }
            int[] below = {-1, -2, Integer.MIN_VALUE};
            for (int v : below) Due.is("set(" + what + ", " + v + ")", x.set(what, v), -4);
            int[] above = {most[what] + 1, most[what] + 2, Integer.MAX_VALUE};
            for (int v : above) Due.is("set(" + what + ", " + v + ")", x.set(what, v), -6);
            Due.is("now(" + what + ") behind what was refused", x.now(what), most[what]);
            for (int other = 0; other < 4; other++) {
                if (other != what) Due.is("now(" + other + ")", x.now(other), other == 0 ? 10 : 0);
            }
        }
    }

    private static void fanFromLeastToMost() {
        Due.sentence("FAN (-50 .. 50; 0): v and 50. -4 below -50; -6 50");
        DraughtsByCandle x = new DraughtsByCandle();
        for (int v = -50; v <= 50; v++) {
            Due.is("fan(" + v + ")", x.fan(v), v + 50);
            Due.is("now(3)", x.now(3), v);
        }
        int[] below = {-51, Integer.MIN_VALUE};
        for (int v : below) Due.is("fan(" + v + ")", x.fan(v), -4);
        int[] above = {51, Integer.MAX_VALUE};
        for (int v : above) Due.is("fan(" + v + ")", x.fan(v), -6);
        Due.is("now(3) behind what was refused", x.now(3), 50);
        Due.is("now(0)", x.now(0), 10);
    }

    // ---- OUTSIDE PUSH

    private static void heightsFrom0To9() {
        Due.sentence("p HOLE: WARM times (5 less HEIGHT)");
        for (int height = 0; height <= 9; height++) {
            DraughtsByCandle x = Due.housed("h0p1" + height + "1,0;");
            int[] warms = {0, 1, 10, 40};
            for (int warm : warms) {
                x.set(0, warm);
                Due.is("outside at height " + height + ", warm " + warm, x.outside(0), warm * (5 - height));
            }
        }
    }

    private static void windBySides() {
        Due.sentence("WIND times WIND, if SIDE is the wind's; half of that less (cut), if it is the other one (and 2, gone round); 0 else");
        DraughtsByCandle x = Due.housed("h0p150,0;h0p151,0;h0p152,0;h0p153,0;");
        int[][] does = {{400, 0, -200, 0}, {0, 400, 0, -200}, {-200, 0, 400, 0}, {0, -200, 0, 400}};
        for (int wind = 0; wind < 4; wind++) {
            air(x, 10, 20, wind, 0);
            for (int side = 0; side < 4; side++) {
                Due.is("wind from " + wind + " at side " + side, x.outside(side), does[wind][side]);
            }
            x.set(1, 0);
            for (int side = 0; side < 4; side++) Due.is("no wind at side " + side, x.outside(side), 0);
        }
    }

    private static void halfIsCut() {
        Due.sentence("half of that less (cut)");
        DraughtsByCandle x = Due.housed("h0p152,0;h0w152,0;h0w150,0;");
        int[] half = {0, 0, 2, 4, 8, 12, 18, 24, 32, 40, 50, 60, 72, 84, 98, 112, 128, 144, 162, 180, 200};
        for (int wind = 0; wind <= 20; wind++) {
            x.set(1, wind);
            Due.is("lee of " + wind, x.outside(0), -half[wind]);
            // What the wind does is cut first, and comes twice then.
            Due.is("lee of " + wind + ", twice", x.outside(1), -2 * half[wind]);
            Due.is("windward of " + wind + ", twice", x.outside(2), 2 * wind * wind);
        }
    }

    private static void kindsUnderKinds() {
        Due.sentence("OUTSIDE PUSH at a HOLE by KINDS: l, t, w UNDER HOLE, c UNDER HIGH, f UNDER HOLE, s UNDER CHIMNEY");
        for (int side = 0; side < 4; side++) {
            String end = "13" + side + ",0;";
            DraughtsByCandle x = Due.housed("h0p" + end + "h0l" + end + "h0t" + end + "h0w" + end);
            Due.tell(x, "h0c" + end + "h0f" + end + "h0s" + end);
            int[][] airs = {{0, 0, 0}, {40, 20, 50}, {40, 20, -50}, {1, 0, 0}, {0, 1, 0}, {0, 0, 1}, {7, 9, -13}};
            for (int[] a : airs) {
                air(x, a[0], a[1], 1, a[2]);
                int wind = side == 1 ? a[1] * a[1] : side == 3 ? -(a[1] * a[1] / 2) : 0;
                int hole = 2 * a[0] + wind;
                int high = hole - a[0];
                int[] want = {hole, hole + a[0], high, hole + wind, high - 3 * a[0] - 2 * a[1], hole + a[2],
                    high - 3 * a[0] - 2 * a[1] - 20};
                for (int kind = 0; kind < 7; kind++) Due.is("kind " + kind + " at side " + side, x.outside(kind), want[kind]);
            }
        }
    }

    private static void kindsAtTheirFarthest() {
        Due.sentence("OUTSIDE PUSH, as great and as small as it can be");
        DraughtsByCandle x = Due.housed("h0w100,0;h0l100,0;h0f100,0;h0s192,0;h0w192,0;h0c192,0;h0f192,0;");
        air(x, 40, 20, 0, 50);
        int[] want = {1000, 640, 650, -580, -560, -560, -310};
        for (int i = 0; i < want.length; i++) Due.is("outside(" + i + ")", x.outside(i), want[i]);
        x.fan(-50);
        Due.is("a fan's, against the wind", x.outside(2), 550);
        Due.is("a fan's, in the lee", x.outside(6), -410);
        Due.is("a windward one has no fan", x.outside(0), 1000);
    }

    // ---- FLOW and ROUNDS

    /** Rooms come to 200 at most, so that 200 and FAN outside leave FAN between them. */
    private static void rootsAreCut() {
        Due.sentence("FLOW: SIZE times the root (cut) of how far apart the two PUSHES are");
        for (int size = 0; size <= 9; size++) {
            DraughtsByCandle x = Due.housed("n1;h0f" + size + "00,0;");
            x.set(0, 40);
            for (int fan = 0; fan <= 50; fan++) {
                x.fan(fan);
                Due.is("push", x.push(0), size == 0 ? 0 : 200);
                Due.is("flow of size " + size + " by " + fan, x.flow(0), size * root(fan));
            }
            x = Due.housed("n1;h0f" + size + "90,0;");
            x.set(0, 40);
            for (int fan = 50; fan >= 40; fan--) {
                x.fan(-fan);
                Due.is("push", x.push(0), size == 0 ? 0 : -200);
                Due.is("flow of size " + size + " by -" + fan, x.flow(0), -size * root(fan - 40));
            }
        }
    }

    private static void farRoots() {
        Due.sentence("the root (cut), far apart");
        DraughtsByCandle x = Due.housed("n1;h0f100,0;");
        air(x, 40, 20, 0, 0);
        for (int fan = -50; fan <= 50; fan++) {
            x.fan(fan);
            Due.is("flow by " + (400 + fan), x.flow(0), root(400 + fan));
        }
        x = Due.housed("h0s992,0;h0w900,0;");
        air(x, 40, 20, 0, 0);
        Due.is("push", x.push(0), 200);
        Due.is("out by 780", x.flow(0), -9 * 27);
        Due.is("in by 800", x.flow(1), 9 * 28);
        x = Due.housed("h0s992,0;h0w100,0;");
        air(x, 40, 20, 0, 0);
        Due.is("push", x.push(0), -200);
        Due.is("out by 380", x.flow(0), -9 * 19);
        Due.is("in by 1200", x.flow(1), 34);
    }

    private static void inAndOut() {
        Due.sentence("IN (a HOLE: from outside; a DOOR: from its first ROOM to the second) if the first's PUSH is greater, else below 0");
        // 240 outside; the rooms come to 200 and, behind a door, to as much.
        DraughtsByCandle x = Due.housed("h0l100,0;h1t190,0;d011;d101;");
        x.set(0, 40);
        Due.is("in by the low hole", x.flow(0) > 0 ? 1 : 0, 1);
        Due.is("out by the high hole", x.flow(1) < 0 ? 1 : 0, 1);
        Due.is("the door from 0 to 1", x.flow(2), root(x.push(0) - x.push(1)));
        Due.is("the door from 1 to 0", x.flow(3), -root(x.push(0) - x.push(1)));
        Due.is("something flows", x.flow(2) > 0 ? 1 : 0, 1);
        x = Due.housed("h0p150,0;d019;");
        Due.is("a door between alike", x.flow(1), 0);
        Due.is("a hole between alike", x.flow(0), 0);
    }

    private static void roundsAre200() {
        Due.sentence("PUSHES of ROOMS: all 0, then 200 ROUNDS");
        DraughtsByCandle x = Due.housed("n1;h0f100,0;");
        x.set(0, 40);
        for (int fan = -3; fan <= 3; fan++) {
            x.fan(fan);
            Due.is("push by " + (200 + fan), x.push(0), Math.min(200, 200 + fan));
        }
        x = Due.housed("n1;h0f190,0;");
        x.set(0, 40);
        for (int fan = -43; fan <= -37; fan++) {
            x.fan(fan);
            Due.is("push by " + (-160 + fan), x.push(0), Math.max(-200, -160 + fan));
        }
        // It goes 1, 0, 1, 0: 199 or 201 rounds would end at 1.
        Due.is("an even number", Due.housed("n1;h0p100,0;h0p850,0;").push(0), 0);
        // These move on at each round still.
        x = Due.housed("h1p280,0;h0p120,0;d104;");
        Due.is("push(0)", x.push(0), -16);
        Due.is("push(1)", x.push(1), -20);
        // Each asking begins at 0 again.
        Due.is("push(0) once more", x.push(0), -16);
        Due.is("push(1) once more", x.push(1), -20);
    }

    private static void pushesMoveByOne() {
        Due.sentence("its PUSH is 1 more, if more flows into it than out of it, 1 less, if less");
        // 1 in at 0 and nothing at 1; 1 out at 0 and nothing at -1.
        DraughtsByCandle x = Due.housed("n1;h0f150,0;");
        for (int fan = -50; fan <= 50; fan++) {
            x.fan(fan);
            Due.is("push by " + fan, x.push(0), fan);
        }
        // As much in as out: 2 by 4 in, 1 by 20 out: 4 and 4.
        x = Due.housed("n1;h0f250,0;h0p170,0;");
        x.fan(4);
        Due.is("as much in as out", x.push(0), 0);
        Due.is("in", x.flow(0), 4);
        Due.is("out", x.flow(1), -4);
        Due.is("no holes", new DraughtsByCandle().push(1), 0);
        Due.is("no size", Due.housed("h0p000,0;").push(0), 0);
    }

    private static void roomByRoom() {
        Due.sentence("in each, ROOM by ROOM by numbers (by PUSHES as they are at that moment)");
        // Rooms the other way round would end at -16 and -19, both at once at -10 and -15.
        DraughtsByCandle x = Due.housed("h1p280,0;h0p120,0;d104;");
        Due.is("push(0)", x.push(0), -16);
        Due.is("push(1)", x.push(1), -20);
        // Likewise: 5 and 5, and 0 and 0.
        x = Due.housed("h0p140,0;h1p160,0;d016;d014;");
        Due.is("push(0)", x.push(0), -5);
        Due.is("push(1)", x.push(1), -5);
    }

    // ---- COAL, SMOKES, LEAN

    private static void coalOfHolesAlone() {
        Due.sentence("COAL: all that flows IN by HOLES, times WARM");
        int[][] airs = {{40, 20, 0, 50}, {1, 20, 2, -50}, {10, 0, 0, 0}, {40, 0, 3, 7}, {5, 13, 1, 50}};
        for (int[] a : airs) {
            DraughtsByCandle x = fullIn(a[0], a[1], a[2], a[3]);
            Due.is("coal()", x.coal(), inflow(x) * a[0]);
            Due.is("something flows in", inflow(x) > 0 ? 1 : 0, 1);
        }
        Due.is("no holes", new DraughtsByCandle().coal(), 0);
        // 9 flows through the door, 7 in by the hole.
        Due.is("doors are no holes", Due.housed("h0p100,0;h1p950,0;d019;").coal(), 70);
    }

    private static void coalAtWarm0() {
        Due.sentence("COAL .. times WARM (0 .. 40)");
        DraughtsByCandle x = Due.housed("n1;h0p150,0;h0p152,0;");
        air(x, 0, 20, 0, 0);
        Due.is("something flows in", x.flow(0) > 0 ? 1 : 0, 1);
        Due.is("coal() at WARM 0", x.coal(), 0);
        int flows = x.flow(0);
        x.set(0, 1);
        Due.is("coal() at WARM 1", x.coal(), flows);
        x.set(0, 40);
        Due.is("coal() at WARM 40", x.coal(), 40 * flows);
    }

    private static void smokeByNothingOrIn() {
        Due.sentence("SMOKES: whether by some STOVE'S HOLE of SIZE above 0 nothing or IN flows");
        DraughtsByCandle x = Due.housed("n1;h0s100,0;h0p050,0;");
        Due.is("flow(0)", x.flow(0), 0);
        Due.is("nothing flows", x.smokes(), 1);
        x.size(0, 0);
        Due.is("of SIZE 0", x.smokes(), 0);
        x.size(0, 1);
        x.size(1, 9);
        Due.is("flow(0)", x.flow(0) < 0 ? -1 : 0, -1);
        Due.is("out", x.smokes(), 0);
        x = Due.housed("n1;h0s150,0;h0p952,0;");
        air(x, 0, 20, 0, 0);
        Due.is("flow(0)", x.flow(0) > 0 ? 1 : 0, 1);
        Due.is("in", x.smokes(), 1);
        // The least that flows out: 1 by 1.
        x = Due.housed("n1;h0s150,0;h0f150,0;");
        air(x, 0, 0, 0, -18);
        Due.is("flow(0)", x.flow(0), -1);
        Due.is("1 out", x.smokes(), 0);
        x.fan(-20);
        Due.is("flow(0)", x.flow(0), 0);
        Due.is("nothing", x.smokes(), 1);
        x.fan(-22);
        Due.is("flow(0)", x.flow(0), 1);
        Due.is("1 in", x.smokes(), 1);
        Due.is("none is there", new DraughtsByCandle().smokes(), 0);
        Due.is("a chimney at rest", Due.housed("n1;h0c100,0;").smokes(), 0);
        Due.is("the second of two", Due.housed("h0p950,0;h0s100,0;h1s100,0;").smokes(), 1);
        Due.is("the first of two", Due.housed("h1s100,0;h0p950,0;h0s100,0;").smokes(), 1);
    }

    private static void leanByTheLeastFlow() {
        Due.sentence("LEAN: 1 FLOW above 0, -1 below (told 2), 0");
        DraughtsByCandle x = Due.housed("n1;h0f150,0;h0p150,0;");
        int[] fans = {-2, 0, 2};
        int[] flows = {-1, 0, 1};
        int[] leans = {2, 0, 1};
        for (int i = 0; i < 3; i++) {
            x.fan(fans[i]);
            Due.is("flow(0)", x.flow(0), flows[i]);
            Due.is("lean(0)", x.lean(0), leans[i]);
            Due.is("lean(1)", x.lean(1), leans[2 - i]);
        }
        x = full();
        for (int i = 0; i < 10; i++) {
            int flow = x.flow(i);
            Due.is("lean(" + i + ")", x.lean(i), flow > 0 ? 1 : flow < 0 ? 2 : 0);
        }
    }

    // ---- STOPPED, BEST, PAIRS

    private static int coalWithSizes0(DraughtsByCandle x, int bits) {
        int[] sizes = new int[10];
        for (int i = 0; i < x.count(1); i++) {
            sizes[i] = x.hole(i, 3);
            if ((bits >> i & 1) == 1) x.size(i, 0);
        }
        int coal = x.coal();
        for (int i = 0; i < x.count(1); i++) x.size(i, sizes[i]);
        return coal;
    }

    private static void stoppedIsSizeZero() {
        Due.sentence("STOPPED: with some of SIZE 0 (HOLES and DOORS)");
        for (int bits = 0; bits < 1024; bits++) {
            DraughtsByCandle x = fullIn(40, 12, 1, 30);
            int sizes = x.count(4);
            Due.is("stopped(" + bits + ")", x.stopped(bits), coalWithSizes0(x, bits));
            Due.is("sizes are as before", x.count(4), sizes);
        }
    }

    private static void stoppedBits() {
        Due.sentence("-1 bits of none");
        for (int many = 0; many <= 10; many++) {
            DraughtsByCandle x = new DraughtsByCandle();
            for (int i = 0; i < many; i++) Due.tell(x, i % 3 == 2 ? "d011;" : "h0p1" + i + "0,0;");
            int all = (1 << many) - 1;
            Due.is("none", x.stopped(0), x.coal());
            Due.is("all " + many, x.stopped(all), 0);
            int[] wrong = {all + 1, all + 2, 1 << 10, 1 << 30, 1 << 31, -1, Integer.MAX_VALUE, (1 << 20) | all};
            for (int bits : wrong) Due.is("stopped(" + bits + ") of " + many, x.stopped(bits), -1);
        }
    }

    private static void bestIs(DraughtsByCandle x, int coin, int holes, int coal) {
        Due.is("best(" + coin + ", 0)", x.best(coin, 0), holes);
        Due.is("best(" + coin + ", 1)", x.best(coin, 1), coal);
    }

    private static void bestForSoMuchCoin() {
        Due.sentence("BEST for so much coin: HOLES of which PRICES together are no more");
        // 50 of coal, 0 with either stopped; their prices are 7 and 3.
        DraughtsByCandle x = Due.housed(TWO_HOLES);
        bestIs(x, 0, 0, 50);
        bestIs(x, 2, 0, 50);
        bestIs(x, 3, 2, 0);
        bestIs(x, 6, 2, 0);
        bestIs(x, 7, 1, 0);
        bestIs(x, 99, 1, 0);
        // For nothing what costs nothing; 99 for what costs 99.
        bestIs(Due.housed("n1;h0p150,0;h0p100,3;"), 0, 1, 0);
        x = Due.housed("n1;h0p150,99;h0p100,99;");
        bestIs(x, 98, 0, 50);
        bestIs(x, 99, 1, 0);
        // Together: in each of two rooms one must be stopped.
        x = Due.housed("h0p150,40;h0p100,41;h1p150,40;h1p100,41;");
        bestIs(x, 39, 0, 100);
        bestIs(x, 40, 1, 50);
        bestIs(x, 79, 1, 50);
        bestIs(x, 80, 5, 0);
        bestIs(new DraughtsByCandle(), 0, 0, 0);
        bestIs(new DraughtsByCandle(), 99, 0, 0);
    }

    private static void bestOfThreeAtMost() {
        Due.sentence("at most 3 HOLES (no DOORS)");
        // In each of four rooms one of two must be stopped.
        DraughtsByCandle x = Due.housed("n4;h0p150,0;h0p100,0;h1p150,0;h1p100,0;h2p150,0;h2p100,0;h3p150,0;");
        Due.tell(x, "h3p100,0;");
        Due.is("coal()", x.coal(), 200);
        Due.is("four", x.stopped(85), 0);
        bestIs(x, 99, 21, 50);
        // The door alone would do it.
        x = Due.housed("d019;h0p950,9;h1p100,9;");
        Due.is("the door", x.stopped(1), 0);
        bestIs(x, 8, 0, 70);
        bestIs(x, 9, 2, 0);
    }

    private static void bestOfSeveral() {
        Due.sentence("with least COAL; of several the least as bits");
        // 2 would leave 60 too, and costs less.
        DraughtsByCandle x = Due.housed("n1;h0l320,8;h0s320,7;h0t130,4;");
        Due.is("the other one", x.stopped(2), 60);
        bestIs(x, 8, 1, 60);
        // 8 alone would leave 70 too, and is fewer.
        x = Due.housed("n1;h0t320,3;h0p110,8;h0s120,2;h0s150,6;");
        Due.is("the other one", x.stopped(8), 70);
        bestIs(x, 6, 5, 70);
    }

    private static void bestWithoutSmoke() {
        Due.sentence("and no SMOKE; -9 none is without SMOKE");
        // As it is it smokes by no coal; with one of the stoves stopped it burns 60 without smoke.
        DraughtsByCandle x = Due.housed("n2;h0s300,7;h0s130,3;h0p360,5;");
        Due.is("smokes()", x.smokes(), 1);
        Due.is("coal()", x.coal(), 0);
        bestIs(x, 7, 1, 60);
        x = Due.housed("n1;h0s100,5;");
        bestIs(x, 4, -9, -9);
        bestIs(x, 5, 1, 0);
        // Four stoves at rest in four rooms: three of them may be stopped.
        x = Due.housed("n4;h0s100,0;h1s100,0;h2s100,0;h3s100,0;");
        bestIs(x, 99, -9, -9);
        x.size(3, 0);
        bestIs(x, 99, 7, 0);
    }

    private static void pairsAre(String house, int many, int first) {
        DraughtsByCandle x = Due.housed(house);
        Due.is("pairs(0) of " + house, x.pairs(0), many);
        Due.is("pairs(1) of " + house, x.pairs(1), many == 0 ? -9 : first);
    }

    private static void pairsOfWhichOneAloneDoesNothing() {
        Due.sentence("PAIRS: two HOLES of which each alone STOPPED makes COAL no less, but both: 10 times the lesser and the other, the first; how many");
        pairsAre("n1;h0p100,0;h0p950,0;h0p950,0;", 1, 12);
        pairsAre("n1;h0p950,0;h0p950,0;h0p100,0;", 1, 1);
        // One alone is enough.
        pairsAre(TWO_HOLES, 0, -9);
        // Each alone makes it even more (30; 60, 40), both none.
        DraughtsByCandle x = Due.housed("n1;h0p110,0;h0t310,1;h0t140,2;");
        int[] coals = {30, 60, 40, 0};
        for (int bits = 0; bits < 4; bits++) Due.is("stopped(" + bits + ")", x.stopped(bits), coals[bits]);
        pairsAre("n1;h0p110,0;h0t310,1;h0t140,2;", 3, 1);
        // Each alone makes it no less, and both make as much.
        pairsAre("n1;h0p300,2;h0l310,3;h0p130,2;", 0, -9);
        pairsAre("n1;h0p000,0;h0p000,0;", 0, -9);
        // Ten of them: those of two rooms, of which the second is 8 and 9.
        pairsAre("h0p100,0;d010;h0p950,0;h0p950,0;", 1, 23);
        x = Due.housed("h0p100,0;d010;h0p950,0;h0p950,0;d010;d010;d010;h1p100,0;");
        Due.tell(x, "h1p950,0;h1p950,0;");
        Due.is("pairs(0)", x.pairs(0), 2);
        Due.is("pairs(1)", x.pairs(1), 23);
        x.size(0, 0);
        Due.is("pairs(0)", x.pairs(0), 1);
        Due.is("pairs(1)", x.pairs(1), 89);
        Due.is("no holes", new DraughtsByCandle().pairs(0), 0);
        Due.is("no holes", new DraughtsByCandle().pairs(1), -9);
    }

    private static void pairsOfHolesAlone() {
        Due.sentence("PAIRS: two HOLES");
        // Either door lets through all that the hole behind it takes; both shut, nothing flows.
        DraughtsByCandle x = Due.housed("h0p100,0;d019;d019;h1p950,0;");
        Due.is("neither", x.stopped(0), 70);
        Due.is("a door", x.stopped(2), 70);
        Due.is("the other", x.stopped(4), 70);
        Due.is("both", x.stopped(6), 0);
        Due.is("pairs(0)", x.pairs(0), 0);
        Due.is("pairs(1)", x.pairs(1), -9);
    }

    // ---- SHUT, CHAIR, FINGER

    private static void shutEitherWay() {
        Due.sentence("SHUT: how much more flows through a HOLE, DOOR (by what flows, either way), if a DOOR is STOPPED");
        for (int door = 0; door < 10; door++) {
            for (int hole = 0; hole < 10; hole++) {
                DraughtsByCandle x = fullIn(40, 5, 2, 20);
                int shut = x.shut(door, hole);
                int open = Math.abs(x.flow(hole));
                if (x.hole(door, 2) != 7) {
                    Due.is("shut(" + door + ", " + hole + ")", shut, Due.FAR + 3);
                    continue;
                }
                int sizes = x.count(4);
                x.size(door, 0);
                Due.is("shut(" + door + ", " + hole + ")", shut, Math.abs(x.flow(hole)) - open);
                Due.is("sizes were as before", x.count(4), sizes - (door == 2 ? 5 : door == 3 ? 9 : 2));
            }
        }
        // More, less, and as much; the hole whose flow turns the other way counts by how much it is.
        DraughtsByCandle x = Due.housed("d019;h0p950,0;h1p100,0;h1p150,0;");
        Due.is("less through itself", x.shut(0, 0), -Math.abs(x.flow(0)));
        Due.is("more", x.shut(0, 3), 5 - Math.abs(x.flow(3)));
        x.size(0, 0);
        for (int hole = 0; hole < 4; hole++) Due.is("shut already", x.shut(0, hole), 0);
    }

    private static void chairOfSeveral() {
        Due.sentence("CHAIR: the ROOM through whose HOLES and DOORS least flows (all in and out together), of several the least");
        for (int rooms = 1; rooms <= 6; rooms++) Due.is("nothing flows", Due.housed("n" + rooms + ";").chair(), 0);
        String flowing = "p150,0;h0p100,0;";
        Due.is("the last of two", Due.housed("h0" + flowing).chair(), 1);
        Due.is("the first of two", Due.housed("h1p150,0;h1p100,0;").chair(), 0);
        for (int still = 0; still < 6; still++) {
            DraughtsByCandle x = Due.housed("n6;");
            for (int room = 0; room < 6; room++) {
                if (room != still) Due.tell(x, "h" + room + "p150,0;h" + room + "p100,0;");
            }
            Due.is("all but " + still, x.chair(), still);
        }
        Due.is("alike", Due.housed("h0p150,0;h0p100,0;h1p150,0;h1p100,0;").chair(), 0);
        Due.is("the lesser of two alike", Due.housed("n3;h0p250,0;h0p200,0;h1p150,0;h1p100,0;h2p150,0;h2p100,0;").chair(), 1);
        // 18 by the hole in 0, 12 by the one in 1, and 12 by the door in both, whichever is its first.
        Due.is("a door's second", Due.housed("h0p900,0;h1p250,0;d106;").chair(), 1);
        Due.is("a door's first", Due.housed("h0p900,0;h1p250,0;d016;").chair(), 1);
        Due.is("a door's second", Due.housed("h0p360,0;h1p830,0;d108;").chair(), 0);
        Due.is("a door's first", Due.housed("h0p360,0;h1p830,0;d018;").chair(), 0);
        // In and out do not make each other less: 5 in and 5 out are more than nothing.
        Due.is("in and out", Due.housed("n2;h0p150,0;h0p100,0;h1p000,0;").chair(), 1);
        int[][] airs = {{40, 20, 0, 50}, {1, 20, 2, -50}, {10, 0, 0, 0}, {40, 7, 3, 7}};
        for (int[] a : airs) {
            DraughtsByCandle x = fullIn(a[0], a[1], a[2], a[3]);
            int[] through = new int[6];
            for (int i = 0; i < 10; i++) {
                int flow = Math.abs(x.flow(i));
                through[x.hole(i, 0)] += flow;
                if (x.hole(i, 1) >= 0) through[x.hole(i, 1)] += flow;
            }
            int least = 0;
            for (int room = 1; room < 6; room++) if (through[room] < through[least]) least = room;
            Due.is("chair()", x.chair(), least);
        }
    }

    private static void fingerBelow9() {
        Due.sentence("FINGER: of HOLES of SIZE below 9; -9");
        DraughtsByCandle x = Due.housed("n1;h0p950,0;h0p100,0;");
        for (int size = 0; size <= 8; size++) {
            x.size(1, size);
            Due.is("finger() at SIZE " + size, x.finger(), 1);
            Due.is("its size is as before", x.hole(1, 3), size);
        }
        x.size(1, 9);
        Due.is("finger() at SIZE 9", x.finger(), -9);
        Due.is("no holes", new DraughtsByCandle().finger(), -9);
        Due.is("doors are no holes", Due.housed("d011;d101;").finger(), -9);
        // Wider, the door would leave 110 of coal as it is, and either hole makes more.
        x = Due.housed("d013;h0p100,0;h1p150,0;");
        Due.is("the door flows in", x.flow(0) > 0 ? 1 : 0, 1);
        Due.is("no door", x.finger(), 1);
    }

    private static void fingerThatFlowsInThen() {
        Due.sentence("FINGER: of those that flow IN then");
        // The one that flows out would make 40, the one that flows in more.
        DraughtsByCandle x = Due.housed("n1;h0t120,3;h0l360,2;");
        x.size(1, 4);
        Due.is("the way out", x.coal(), 40);
        Due.is("flows out then", x.lean(1), 2);
        x.size(1, 3);
        x.size(0, 2);
        Due.is("the way in", x.coal() > 40 ? 1 : 0, 1);
        x.size(0, 1);
        Due.is("finger()", x.finger(), 0);
        // The second flows in now, but does not then.
        x = Due.housed("n1;h0l130,0;h0p310,0;");
        Due.is("flows in now", x.flow(1), 3);
        Due.is("finger()", x.finger(), -9);
        // The second lets nothing through now, but does then.
        x = Due.housed("n2;h0t140,3;h1t230,2;d017;");
        Due.is("flows not in now", x.flow(1), 0);
        Due.is("finger()", x.finger(), 1);
        x = Due.housed("n1;h0p150,0;h0p000,0;");
        Due.is("of SIZE 0 now", x.finger(), 1);
        // The least that flows in: 1.
        x = Due.housed("n1;h0p150,0;h0p040,0;");
        x.set(0, 1);
        Due.is("1 flows in then", x.finger(), 1);
        x.size(1, 1);
        Due.is("1", x.flow(1), 1);
    }

    private static void fingerOfSeveral() {
        Due.sentence("FINGER: the one which makes COAL least; of several the least");
        Due.is("alike", Due.housed("n1;h0p250,0;h0p100,0;h0p100,0;").finger(), 1);
        Due.is("alike in two rooms", Due.housed("h1p150,0;h1p100,0;h0p150,0;h0p100,0;").finger(), 1);
        Due.is("a later one", Due.housed("h1p250,0;h1p200,0;h0p150,0;h0p100,0;").finger(), 3);
        // Without WARM none makes any COAL, so they are alike, though by the last one least would flow in.
        DraughtsByCandle x = Due.housed("n1;h0p450,0;h0p352,0;h0w250,0;");
        air(x, 0, 9, 0, 0);
        Due.is("no coal at all", x.finger(), 0);
        x.size(0, 9);
        Due.is("no coal at all, and the first is of SIZE 9", x.finger(), 2);
    }

    // ---- NUMBER, WINTER, TURNS ABOUT

    private static void numberWithoutWarmAndWind() {
        Due.sentence("NUMBER: all that flows IN by HOLES, if WARM and WIND are 0 and FAN is told. -4; -6 likewise (-50, 50)");
        for (int fan = -50; fan <= 50; fan++) {
            DraughtsByCandle x = fullIn(33, 19, 3, 17);
            int number = x.number(fan);
            Due.is("now(0)", x.now(0), 33);
            Due.is("now(1)", x.now(1), 19);
            Due.is("now(3)", x.now(3), 17);
            air(x, 0, 0, 3, fan);
            Due.is("number(" + fan + ")", number, inflow(x));
        }
        DraughtsByCandle x = Due.housed("n1;h0f150,0;h0p150,0;");
        int[] fans = {-50, -2, -1, 0, 1, 2, 50};
        int[] numbers = {5, 1, 0, 0, 1, 1, 5};
        for (int i = 0; i < fans.length; i++) Due.is("number(" + fans[i] + ")", x.number(fans[i]), numbers[i]);
        int[] below = {-51, Integer.MIN_VALUE};
        for (int fan : below) Due.is("number(" + fan + ")", x.number(fan), -4);
        int[] above = {51, Integer.MAX_VALUE};
        for (int fan : above) Due.is("number(" + fan + ")", x.number(fan), -6);
        Due.is("no holes", new DraughtsByCandle().number(50), 0);
    }

    private static void winterOfAllWeathers() {
        Due.sentence("WINTER: COAL of all told WEATHERS together");
        int[][] weathers = {{40, 20, 3}, {0, 20, 1}, {10, 0, 0}, {1, 7, 2}};
        for (int many = 0; many <= 4; many++) {
            DraughtsByCandle x = fullIn(33, 19, 1, -9);
            for (int i = 0; i < many; i++) Due.tell(x, "w" + weathers[i][0] + "," + weathers[i][1] + "," + weathers[i][2] + ";");
            int winter = x.winter();
            Due.is("now(0)", x.now(0), 33);
            int all = 0;
            for (int i = 0; i < many; i++) {
                air(x, weathers[i][0], weathers[i][1], weathers[i][2], -9);
                all += x.coal();
            }
            Due.is("winter() of " + many, winter, all);
        }
    }

    private static void turnsAboutInSomeWeathers() {
        Due.sentence("TURNS ABOUT: HOLES, DOORS (bits) that LEAN otherwise in some told WEATHERS than in others (0 is no LEAN)");
        String house = "n1;h0p150,0;h0p152,0;";
        String[] weathers = {"", "w0,9,0;", "w0,9,2;", "w0,0,0;", "w0,9,0;w0,9,0;", "w0,9,0;w0,0,0;", "w0,0,0;w0,9,2;",
            "w0,9,0;w0,9,2;", "w0,9,2;w0,9,0;", "w0,9,2;w0,0,0;w0,0,0;w0,9,0;", "w0,9,0;w0,9,1;w0,9,3;w0,0,0;"};
        int[] bits = {0, 0, 0, 0, 0, 0, 0, 3, 3, 3, 0};
        for (int i = 0; i < bits.length; i++) Due.is("turnsAbout() in " + weathers[i], Due.housed(house + weathers[i]).turnsAbout(), bits[i]);
        // 1 in and 1 out, then the other way.
        Due.is("by flows of 1", Due.housed(house + "w0,2,0;w0,2,2;").turnsAbout(), 3);
        // NOW is no told WEATHER.
        DraughtsByCandle x = Due.housed(house + "w0,9,0;");
        air(x, 0, 9, 2, 0);
        Due.is("by now", x.turnsAbout(), 0);
        x = Due.housed("h0p150,0;d011;h1p152,0;w0,9,0;w0,9,2;");
        Due.is("a door", x.turnsAbout(), 7);
        x.size(1, 0);
        Due.is("the door shut", x.turnsAbout(), 0);
        tenTurnAbout();
    }

    private static void tenTurnAbout() {
        DraughtsByCandle x = Due.housed("h0p150,0;d011;h1p152,0;d101;d010;d011;w0,9,0;w0,9,2;");
        Due.tell(x, "h1p152,0;h0p150,0;d101;h0p151,0;");
        int want = 0;
        for (int i = 0; i < 10; i++) {
            air(x, 0, 9, 0, 0);
            int first = x.lean(i);
            air(x, 0, 9, 2, 0);
            int second = x.lean(i);
            if (first + second == 3 && first * second == 2) want |= 1 << i;
        }
        Due.is("the last of ten leans one way alone, the fifth none", want & (1 << 4), 0);
        Due.is("turnsAbout() of ten", x.turnsAbout(), want);
    }

    // ---- SIZES, HIDDEN, DAYS

    private static void sizesAre(DraughtsByCandle x, int hole, int felt, int least, int greatest, int many) {
        String call = "sizes(" + hole + ", " + felt + ", ";
        Due.is(call + "0)", x.sizes(hole, felt, 0), least);
        Due.is(call + "1)", x.sizes(hole, felt, 1), greatest);
        Due.is(call + "2)", x.sizes(hole, felt, 2), many);
    }

    private static void sizesThatAreFelt() {
        Due.sentence("SIZES: FELT of one, now: the least, the greatest SIZE (0 .. 9) by which FLOW through it is as told; -9; how many");
        DraughtsByCandle x = Due.housed("n1;h0f900,0;");
        air(x, 40, 0, 0, 25);
        for (int size = 0; size <= 9; size++) sizesAre(x, 0, 5 * size, size, size, 1);
        sizesAre(x, 0, 50, -9, -9, 0);
        sizesAre(x, 0, 46, -9, -9, 0);
        sizesAre(x, 0, -5, -9, -9, 0);
        sizesAre(x, 0, Integer.MAX_VALUE, -9, -9, 0);
        sizesAre(x, 0, Integer.MIN_VALUE, -9, -9, 0);
        Due.is("its size is as before", x.hole(0, 3), 9);
        x = Due.housed("h0p150,0;d014;");
        sizesAre(x, 1, 0, 0, 9, 10);
        sizesAre(x, 1, 1, -9, -9, 0);
        // 3 and 6, but not what is between them.
        sizesAre(Due.housed("n1;h0p310,2;h0l110,0;"), 1, 6, 3, 6, 2);
        // What flows out is told below 0.
        sizesAre(Due.housed(TWO_HOLES), 0, -5, 1, 1, 1);
        sizesAre(Due.housed(TWO_HOLES), 0, 5, -9, -9, 0);
    }

    private static void hiddenInTheLeastRoom() {
        Due.sentence("HIDDEN: the least ROOM for which a HOLE p of HEIGHT 5, SIDE 0 and told SIZE more would make COAL as told; -9");
        DraughtsByCandle x = Due.housed("n6;h5p100,0;");
        // 7 in by 49 at room 5 as soon as there is a way out; elsewhere it changes nothing.
        Due.is("the last room", x.hidden(9, 70), 5);
        Due.is("the first of those where nothing flows", x.hidden(9, 0), 0);
        Due.is("no room", x.hidden(9, 69), -9);
        Due.is("no room", x.hidden(9, 71), -9);
        Due.is("of SIZE 0", x.hidden(0, 0), 0);
        Due.is("of SIZE 0", x.hidden(0, 70), -9);
        Due.is("of no size so great", x.hidden(9, Integer.MAX_VALUE), -9);
        // In a room that is not there it would change nothing; there is none.
        Due.is("one room", Due.housed("n1;h0p100,0;").hidden(9, 0), -9);
        Due.is("six rooms", Due.housed("n6;h0p100,0;h1p100,0;h2p100,0;h3p100,0;h4p100,0;h5p100,0;").hidden(9, 0), -9);
        x = Due.housed("n2;h0p100,0;h1p100,0;");
        Due.is("alike", x.hidden(9, 70), 0);
        // At SIDE 0 by the wind of 16 something comes in; it would not at 1 or 3.
        x = Due.housed("n1;h0p151,0;");
        air(x, 1, 4, 0, 0);
        Due.is("SIDE 0", x.hidden(1, 2), 0);
        // At HEIGHT 5 warmth pushes nothing.
        x = Due.housed("n1;h0p150,0;");
        x.set(0, 40);
        Due.is("HEIGHT 5", x.hidden(1, 0), 0);
        for (int size = 0; size <= 9; size++) hiddenIsAsTold(size);
    }

    /** The hole more is told in the letters of a house, and the coal is looked at. */
    private static void hiddenIsAsTold(int size) {
        String nine = "n3;h0p330,0;h1l400,0;h2s320,0;d015;d123;";
        int[] coals = new int[3];
        for (int room = 0; room < 3; room++) {
            DraughtsByCandle more = Due.housed(nine + "h" + room + "p" + size + "50,0;");
            coals[room] = more.coal();
        }
        DraughtsByCandle x = Due.housed(nine);
        for (int room = 2; room >= 0; room--) {
            int least = 0;
            while (coals[least] != coals[room]) least++;
            Due.is("hidden(" + size + ", " + coals[room] + ")", x.hidden(size, coals[room]), least);
        }
    }

    private static void hiddenIsNotThereBehind() {
        Due.sentence("-4 (either below 0); -6 (size 9; 10 HOLES and DOORS are there)");
        DraughtsByCandle x = Due.housed("d011;".repeat(9));
        Due.is("nine are there", x.hidden(9, 0), 0);
        Due.is("nine are there", x.hidden(0, 1), -9);
        Due.is("nine are there still", x.count(1), 9);
        Due.is("hole(9, 0)", x.hole(9, 0), -1);
        Due.is("sizes", x.count(4), 9);
        Due.is("hidden(10, 0)", x.hidden(10, 0), -6);
        Due.is("hidden(-1, 0)", x.hidden(-1, 0), -4);
        Due.is("hidden(0, -1)", x.hidden(0, -1), -4);
        Due.is("hidden(10, -1)", x.hidden(10, -1), -4);
        Due.is("hidden(greatest, greatest)", x.hidden(Integer.MAX_VALUE, Integer.MAX_VALUE), -6);
        Due.tell(x, "d019;");
        Due.is("the tenth is as told", x.hole(9, 3), 9);
        Due.is("ten are there", x.hidden(9, 0), -6);
        Due.is("ten are there", x.hidden(0, 0), -6);
        Due.is("ten are there", x.hidden(-1, 0), -4);
        Due.is("ten are there", x.hidden(0, -1), -4);
    }

    private static void daysFrom1To30() {
        Due.sentence("DAYS: n of them (1 .. 30). -4; -6 30");
        DraughtsByCandle x = Due.housed("n1;h0s150,0;");
        int[] below = {0, -1, Integer.MIN_VALUE};
        for (int n : below) Due.is("days(" + n + ", 1)", x.days(n, 1), -4);
        int[] above = {31, 32, Integer.MAX_VALUE};
        for (int n : above) Due.is("days(" + n + ", 1)", x.days(n, 1), -6);
        int before = 0;
        for (int n = 1; n <= 30; n++) {
            int days = x.days(n, 12345);
            Due.is("days(" + n + ", 12345), a day more", days - before == 0 || days - before == 1 ? 1 : 0, 1);
            before = days;
        }
        Due.is("no stove", new DraughtsByCandle().days(30, 1), 0);
        for (int i = 0; i < 4; i++) Due.is("now(" + i + ")", x.now(i), i == 0 ? 10 : 0);
    }

    private static void drawsOfAnInt() {
        Due.sentence("A DRAW below m: z becomes z times 1664525 and 1013904223 (an int); (z without its sign's bit by 256, cut) modulo m");
        int[] seeds = {0, 1, -1, 255, 256, 1013904223, -1013904223, Integer.MIN_VALUE, Integer.MAX_VALUE, 99, 7654321};
        for (int seed : seeds) {
            int[] zs = {seed};
            int smoky = 0;
            DraughtsByCandle told = Due.housed("h0s321,0;h0f240,0;d014;h1p942,0;");
            told.fan(-20);
            for (int day = 1; day <= 30; day++) {
                DraughtsByCandle x = Due.housed("h0s321,0;h0f240,0;d014;h1p942,0;");
                int warm = draw(zs, 41);
                int wind = draw(zs, 21);
                air(x, warm, wind, draw(zs, 4), -20);
                smoky += x.smokes();
                Due.is("days(" + day + ", " + seed + ")", told.days(day, seed), smoky);
            }
            Due.is("some days smoke, some do not", smoky > 0 && smoky < 30 ? 1 : 0, 1);
            for (int i = 0; i < 4; i++) Due.is("now(" + i + ")", told.now(i), i == 0 ? 10 : i == 3 ? -20 : 0);
        }
    }

    private static int draw(int[] z, int below) {
        long wide = ((long) z[0] * 1664525L + 1013904223L) & 0xffffffffL;
        z[0] = (int) wide;
        return (int) ((wide & 0x7fffffffL) / 256 % below);
    }

    // ---- JUDGED

    private static void judgedShortAndLong() {
        Due.sentence("JUDGED: the first that is not so; where it ends, if too short; how many there are, if too long; else -9");
        for (int many = 0; many <= 10; many++) {
            for (int length = 0; length <= 10; length++) judgedOf(many, length);
        }
        Due.sentence("JUDGED: by how it is when it is judged");
        DraughtsByCandle x = Due.housed("n1;h0f150,0;h0p150,0;");
        int[] fans = {50, -50, 0};
        int[] leans = {1, 2, 0};
        for (int told = 0; told < 3; told++) {
            for (int now = 0; now < 3; now++) {
                x.fan(fans[told]);
                x.row(x.lean(0));
                x.row(x.lean(1));
                Due.is("lean(0)", x.lean(0), leans[told]);
                x.fan(fans[now]);
                Due.is("judge()", x.judge(), told == now ? -9 : 0);
            }
        }
    }

    /** Every second hole leans in (1), the others out (2), and the last of ten is a door that does not lean. */
    private static DraughtsByCandle leaning(int many) {
        DraughtsByCandle x = new DraughtsByCandle();
        for (int i = 0; i < many; i++) Due.tell(x, i == 9 ? "d010;" : i % 2 == 0 ? "h0p990,0;" : "h0p900,0;");
        return x;
    }

    private static void judgedOf(int many, int length) {
        for (int wrong = -1; wrong < length; wrong++) {
            DraughtsByCandle x = leaning(many);
            for (int i = 0; i < length; i++) {
                int lean = i < many ? x.lean(i) : 0;
                x.row(i == wrong ? (lean + 1) % 3 : lean);
            }
            int end = many == length ? -9 : Math.min(many, length);
            int want = wrong >= 0 && wrong < many ? wrong : end;
            Due.is("judge() of " + length + ", " + many + " are there, wrong at " + wrong, x.judge(), want);
            Due.is("in the row", x.count(5), 0);
            Due.is("refusals", x.count(16) + x.count(14), 0);
        }
    }
}
