/** The promises one by one: ordinary inputs, edges, refusals in their order. The numbers are reckoned by hand. */
public final class PromisesTest {
    private static final int FAR = 1000000000;
    /** Outside 0 and 50 at WARM 10; the room settles at 25, and 5 flows from one to the other. */
    private static final String TWO_HOLES = "n1;h0p150,7;h0p100,3;";
    private static int wrong = 0;
    private static int promise = 0;

    public static void main(String[] args) {
        promise1();
        promise2();
        promise3Letters();
        promise3Statements();
        promise4();
        promise5();
        promise6();
        promise7();
        promise8();
        promise9();
        promise10();
        promise11();
        promise12();
        promise13();
        promise14();
        promise15();
        promise16();
        promise17();
        promise18();
        promise19();
        promise20();
        promise21();
        promise22();
        promise23();
        promise24();
        promise25();
        promise26();
        promise27();
        promise28();
        promise29();
        promise30And31();
        promise32();
        System.out.println(wrong == 0 ? "all promises are kept" : wrong + " answers are wrong");
        if (wrong != 0) System.exit(1);
    }

    private static void due(String call, int got, int want) {
        if (got != want) {
            wrong++;
            System.out.println("promise " + promise + ": " + call + " answered " + got + ", due is " + want);
        }
    }

    private static int tell(DraughtsByCandle x, String text) {
        for (int i = 0; i < text.length(); i++) x.letter(text.charAt(i));
        return x.house();
    }

    private static DraughtsByCandle housed(String text) {
        DraughtsByCandle x = new DraughtsByCandle();
        if (tell(x, text) <= 0) due("house() of " + text, -1, 1);
        return x;
    }

    /** The counts of refusals -1, -2, -3, -4, -6 in one number, a digit each. */
    private static int refusals(DraughtsByCandle x) {
        return x.count(11) * 10000 + x.count(12) * 1000 + x.count(13) * 100 + x.count(14) * 10 + x.count(16);
    }

    private static void promise1() {
        promise = 1;
        DraughtsByCandle x = new DraughtsByCandle();
        due("rooms", x.count(0), 2);
        for (int what = 1; what <= 6; what++) due("count(" + what + ")", x.count(what), 0);
        for (int what = 11; what <= 16; what++) due("count(" + what + ")", x.count(what), 0);
        due("warm", x.now(0), 10);
        for (int what = 1; what <= 3; what++) due("now(" + what + ")", x.now(what), 0);
        due("push(0)", x.push(0), 0);
        due("push(1)", x.push(1), 0);
        due("push(2)", x.push(2), FAR + 1);
    }

    private static void promise2() {
        promise = 2;
        DraughtsByCandle x = new DraughtsByCandle();
        due("letter(0)", x.letter(0), 1);
        due("letter(255)", x.letter(255), 2);
        due("letter(-1)", x.letter(-1), -4);
        due("letter(256)", x.letter(256), -6);
        due("letters", x.count(6), 2);
        for (int i = 3; i <= 80; i++) due("letter", x.letter('n'), i);
        due("letter behind 80", x.letter('n'), -6);
        due("letter(-1) behind 80", x.letter(-1), -4);
        due("letters", x.count(6), 80);
        due("refusals", refusals(x), 22);
        due("house()", x.house(), -1000);
        due("letter('n')", x.letter('n'), 1);
    }

    private static void houseIs(String text, int want) {
        DraughtsByCandle x = new DraughtsByCandle();
        due("house() of \"" + text + "\"", tell(x, text), want);
        due("letters behind it", x.count(6), 0);
        due("refusals behind it", refusals(x), 0);
        if (want < 0) {
            due("rooms behind a fault", x.count(0), 2);
            due("holes behind a fault", x.count(1), 0);
            due("weathers behind a fault", x.count(3), 0);
        }
    }

    private static void promise3Letters() {
        promise = 3;
        houseIs("", -1000);
        houseIs(";", -1000);
        houseIs("N3;", -1000);
        houseIs("n", -1001);
        houseIs("n;", -1001);
        houseIs("n3", -1002);
        houseIs("n3,", -1002);
        houseIs("n33;", -1002);
        houseIs("n3;;", -1003);
        houseIs("n3; n3;", -1003);
        houseIs("n3;n", -1004);
        houseIs("d", -1001);
        houseIs("da", -1001);
        houseIs("d0", -1002);
        houseIs("d01", -1003);
        houseIs("d015", -1004);
        houseIs("d0155;", -1004);
        houseIs("h", -1001);
        houseIs("hp", -1001);
        houseIs("h0", -1002);
        houseIs("h0d", -1002);
        houseIs("h0P", -1002);
        houseIs("h0\u00ff", -1002);
        houseIs("h0p", -1003);
        houseIs("h0pp", -1003);
        houseIs("h0p12;", -1005);
        houseIs("h0p123;", -1006);
        houseIs("h0p123,", -1007);
        houseIs("h0p123,;", -1007);
        houseIs("h0p123,4", -1008);
        houseIs("h0p123,45", -1009);
        houseIs("h0p123,456;", -1009);
        houseIs("w", -1001);
        houseIs("w,1,1;", -1001);
        houseIs("w1", -1002);
        houseIs("w12", -1003);
        houseIs("w123,1,1;", -1003);
        houseIs("w12,", -1004);
        houseIs("w12,,1;", -1004);
        houseIs("w12,123,1;", -1006);
        houseIs("w12,12", -1006);
        houseIs("w12,12;", -1006);
        houseIs("w12,12,", -1007);
        houseIs("w12,12,10;", -1008);
        // Kind 1 goes ahead of kind 2, wherever it is.
        houseIs("n9;n9;n", -1007);
    }

    private static String times(String text, int many) {
        return text.repeat(many);
    }

    private static void promise3Statements() {
        houseIs("n1;", 1);
        houseIs("n6;", 1);
        houseIs("n0;", -2000);
        houseIs("n7;", -2000);
        houseIs("n3;n7;", -2003);
        houseIs("d019;d109;d010;", 3);
        houseIs("d000;", -2000);
        houseIs("d021;", -2000);
        houseIs("d201;", -2000);
        houseIs("n3;d021;", 2);
        houseIs("d021;n3;", -2000);
        houseIs("h0p993,99;", 1);
        houseIs("h0p000,00;", 1);
        houseIs("h0p000,0;h1p004,0;", -2009);
        houseIs("h2p000,0;", -2000);
        houseIs("n1;h1p000,0;", -2003);
        houseIs("w40,20,3;w00,00,0;w0,0,0;w05,07,1;", 4);
        houseIs("w41,0,0;", -2000);
        houseIs("w0,21,0;", -2000);
        houseIs("w0,0,4;", -2000);
        houseIs("n2;" + times("w0,0,0;", 5), -2031);
        houseIs("h1p000,0;n1;", -2009);
        houseIs("d010;n1;", -2005);
        houseIs("n6;d100;n3;n2;n1;", -2014);
        // A told number of rooms may be less later on, while no hole or door is in what is lost.
        houseIs("n6;n1;", 2);
        // 16 statements of 5 letters are 80.
        houseIs(times("d010;", 10), 10);
        houseIs(times("d010;", 11), -2050);
        houseIs(times("d010;", 10) + "h0p000,0;", -2050);
        houseIs("n1;n2;" + times("d010;", 10) + "n3;n4;n5;n6;w0,0,0;x", -1075);

        DraughtsByCandle x = housed("n3;d012;h2s341,6;w7,8,1;");
        due("rooms", x.count(0), 3);
        due("a second house", tell(x, "h1f111,11;n4;"), 2);
        due("rooms", x.count(0), 4);
        due("openings", x.count(1), 3);
        due("a room that is told of already", tell(x, "w1,1,1;n2;"), -2007);
        due("weathers", x.count(3), 1);
        due("a fault behind good statements", tell(x, "n6;w1,1,1;d351;h5p111,1;h6p111,1;"), -2024);
        due("rooms", x.count(0), 4);
        due("openings", x.count(1), 3);
        due("weathers", x.count(3), 1);
        due("sizes", x.count(4), 6);
        due("the next hole", tell(x, "h0t789,1;"), -2000);
        due("the next hole", tell(x, "h0t783,1;"), 1);
        due("its kind", x.hole(3, 2), 2);
        due("its side", x.hole(3, 5), 3);
    }

    private static void promise4() {
        promise = 4;
        DraughtsByCandle x = housed("n6;d527;h3c481,09;h0p000,0;h0l000,0;h0t000,0;h0w000,0;h0f000,0;h0s993,99;");
        int[][] want = {{5, 2, 7, 7, 0, 0, 0}, {3, -9, 4, 4, 8, 1, 9}, {0, -9, 0, 0, 0, 0, 0}, {0, -9, 1, 0, 0, 0, 0},
            {0, -9, 2, 0, 0, 0, 0}, {0, -9, 3, 0, 0, 0, 0}, {0, -9, 5, 0, 0, 0, 0}, {0, -9, 6, 9, 9, 3, 99}};
        for (int hole = 0; hole < want.length; hole++) {
            for (int what = 0; what < 7; what++) due("hole(" + hole + ", " + what + ")", x.hole(hole, what), want[hole][what]);
        }
        due("hole(8, 0)", x.hole(8, 0), -1);
        due("hole(-1, 7)", x.hole(-1, 7), -1);
        due("hole(0, 7)", x.hole(0, 7), -2);
        due("hole(0, -1)", x.hole(0, -1), -2);
        due("refusals", refusals(x), 22000);
    }

    private static void promise5() {
        promise = 5;
        DraughtsByCandle x = housed("w40,20,3;w1,02,0;");
        due("weather(0, 0)", x.weather(0, 0), 40);
        due("weather(0, 1)", x.weather(0, 1), 20);
        due("weather(0, 2)", x.weather(0, 2), 3);
        due("weather(1, 0)", x.weather(1, 0), 1);
        due("weather(1, 1)", x.weather(1, 1), 2);
        due("weather(1, 2)", x.weather(1, 2), 0);
        due("weather(2, 3)", x.weather(2, 3), -1);
        due("weather(-1, 0)", x.weather(-1, 0), -1);
        due("weather(0, 3)", x.weather(0, 3), -2);
        due("weather(0, -1)", x.weather(0, -1), -2);
        due("refusals", refusals(x), 22000);
    }

    private static void promise6() {
        promise = 6;
        DraughtsByCandle x = new DraughtsByCandle();
        int[] most = {40, 20, 3};
        int[] first = {10, 0, 0};
        for (int what = 0; what < 3; what++) {
            due("set to the most", x.set(what, most[what]), first[what]);
            due("set above", x.set(what, most[what] + 1), -6);
            due("set below", x.set(what, -1), -4);
            due("now", x.now(what), most[what]);
            due("set to 0", x.set(what, 0), most[what]);
            due("set to 1", x.set(what, 1), 0);
        }
        due("set(3, -1)", x.set(3, -1), -2);
        due("set(-1, 99)", x.set(-1, 99), -2);
        due("refusals", refusals(x), 2033);
    }

    private static void promise7() {
        promise = 7;
        DraughtsByCandle x = new DraughtsByCandle();
        due("fan(50)", x.fan(50), 100);
        due("fan(-50)", x.fan(-50), 0);
        due("fan(7)", x.fan(7), 57);
        due("fan(51)", x.fan(51), -6);
        due("fan(-51)", x.fan(-51), -4);
        due("now(3)", x.now(3), 7);
        due("refusals", refusals(x), 11);
    }

    private static void promise8() {
        promise = 8;
        DraughtsByCandle x = new DraughtsByCandle();
        x.set(0, 33);
        x.set(1, 17);
        x.set(2, 2);
        x.fan(-4);
        due("now(0)", x.now(0), 33);
        due("now(1)", x.now(1), 17);
        due("now(2)", x.now(2), 2);
        due("now(3)", x.now(3), -4);
        due("now(4)", x.now(4), FAR + 2);
        due("now(-1)", x.now(-1), FAR + 2);
        due("refusals", refusals(x), 2000);
    }

    private static void promise9() {
        promise = 9;
        DraughtsByCandle x = housed("d013;h0p450,0;");
        due("size(0, 9)", x.size(0, 9), 3);
        due("size(1, 0)", x.size(1, 0), 4);
        due("size(1, 2)", x.size(1, 2), 0);
        due("size(1, 10)", x.size(1, 10), -6);
        due("size(1, -1)", x.size(1, -1), -4);
        due("size(2, -1)", x.size(2, -1), -1);
        due("size(-1, 10)", x.size(-1, 10), -1);
        due("hole(0, 3)", x.hole(0, 3), 9);
        due("hole(1, 3)", x.hole(1, 3), 2);
        due("refusals", refusals(x), 20011);
    }

    private static void outsides(String kind, int windward, int leeward, int beside) {
        DraughtsByCandle x = housed("h0" + kind + "121,0;h0" + kind + "123,0;h0" + kind + "120,0;");
        x.set(0, 7);
        x.set(1, 9);
        x.set(2, 1);
        x.fan(-13);
        due("outside of " + kind + ", windward", x.outside(0), windward);
        due("outside of " + kind + ", leeward", x.outside(1), leeward);
        due("outside of " + kind + ", beside", x.outside(2), beside);
    }

    private static void promise10() {
        promise = 10;
        outsides("p", 102, -19, 21);
        outsides("l", 109, -12, 28);
        outsides("t", 95, -26, 14);
        outsides("w", 183, -59, 21);
        outsides("c", 56, -65, -25);
        outsides("f", 89, -32, 8);
        outsides("s", 36, -85, -45);
        DraughtsByCandle x = housed("h0p190,0;d011;h0p101,0;h0p102,0;h0p103,0;");
        due("above the middle", x.outside(0), -40);
        due("a door", x.outside(1), FAR + 3);
        due("nobody", x.outside(5), FAR + 1);
        due("nobody", x.outside(-1), FAR + 1);
        due("refusals", refusals(x), 20100);
        x.set(0, 0);
        x.set(1, 3);
        int[] holes = {0, 2, 3, 4};
        for (int wind = 0; wind < 4; wind++) {
            x.set(2, wind);
            for (int side = 0; side < 4; side++) {
                int want = side == wind ? 9 : (side + wind) % 2 == 0 ? -4 : 0;
                due("side " + side + ", wind " + wind, x.outside(holes[side]), want);
            }
        }
    }

    private static void promise11() {
        promise = 11;
        DraughtsByCandle x = housed(TWO_HOLES);
        due("push(0)", x.push(0), 25);
        due("push(1)", x.push(1), FAR + 1);
        due("push(-1)", x.push(-1), FAR + 1);
        due("refusals", refusals(x), 20000);
        // 200 rounds are too few to come to 240 or -580.
        x = housed("h0l100,0;h1s193,0;");
        x.set(0, 40);
        x.set(1, 20);
        x.set(2, 1);
        due("push(0) by 240", x.push(0), 200);
        due("push(1) by -380", x.push(1), -200);
        // Rooms see what the rooms ahead of them have become in the same round: (1,1) (2,1) (1,0) (0,0).
        x = housed("h0p100,0;h1p950,0;d019;");
        due("push(0)", x.push(0), 0);
        due("push(1)", x.push(1), 0);
        // By 7 in and 8 out at 1 it goes 1, 0, 1, 0; an even number of rounds ends at 0.
        x = housed("n1;h0p100,0;h0p850,0;");
        due("push(0)", x.push(0), 0);
    }

    private static void promise12() {
        promise = 12;
        DraughtsByCandle x = housed(TWO_HOLES);
        due("flow(0)", x.flow(0), -5);
        due("flow(1)", x.flow(1), 5);
        due("flow(2)", x.flow(2), FAR + 1);
        due("flow(-1)", x.flow(-1), FAR + 1);
        due("refusals", refusals(x), 20000);
        // 240 outside, 200 within: the root of 40 is 6.
        x = housed("h0l700,0;d013;d102;");
        x.set(0, 40);
        due("push(1)", x.push(1), 200);
        due("flow(0)", x.flow(0), 42);
        due("flow(1)", x.flow(1), 0);
        // A door's flow is above 0 from its first room to its second, so the other door's is below.
        x = housed("h0p100,0;d013;d102;h1p150,0;");
        int through = x.flow(1);
        due("both doors alike", through * 2 + x.flow(2) * 3, 0);
        due("the first door", through > 0 ? 1 : 0, 1);
        x = housed(TWO_HOLES);
        x.size(1, 0);
        due("flow of no size", x.flow(1), 0);
        // As far apart as can be: 1000 outside, -200 within; -580 outside.
        x = housed("h0w100,0;h0s992,0;");
        x.set(0, 40);
        x.set(1, 20);
        due("push(0)", x.push(0), -200);
        due("the root of 1200", x.flow(0), 34);
        due("9 times the root of 380", x.flow(1), -171);
    }

    private static void promise13() {
        promise = 13;
        DraughtsByCandle x = housed(TWO_HOLES);
        due("lean(0)", x.lean(0), 2);
        due("lean(1)", x.lean(1), 1);
        x.size(0, 0);
        due("lean(0)", x.lean(0), 0);
        due("lean(1)", x.lean(1), 0);
        due("lean(2)", x.lean(2), -1);
        // 1 flows in, and the room goes from 0 to 1 and back.
        DraughtsByCandle y = housed("n1;h0p140,0;h0p150,0;");
        y.set(0, 1);
        due("a flow of 1", y.flow(0), 1);
        due("lean by 1", y.lean(0), 1);
        due("lean(-1)", x.lean(-1), -1);
        due("refusals", refusals(x), 20000);
    }

    private static void promise14() {
        promise = 14;
        DraughtsByCandle x = housed(TWO_HOLES);
        due("coal()", x.coal(), 50);
        x.set(0, 20);
        due("coal()", x.coal(), 140);
        x.set(0, 0);
        x.set(1, 8);
        due("coal()", x.coal(), 0);
        // What flows through doors is no coal: 9 through the door, 7 in by the hole.
        x = housed("h0p100,0;h1p950,0;d019;");
        due("coal()", x.coal(), 70);
    }

    private static void promise15() {
        promise = 15;
        // -10 outside and within: nothing flows.
        DraughtsByCandle x = housed("n1;h0s100,0;");
        due("nothing flows", x.smokes(), 1);
        x.size(0, 0);
        due("no size", x.smokes(), 0);
        x = housed("n1;h0p950,0;h0s100,0;");
        due("a wide hole beside it", x.smokes(), 0);
        x.size(0, 0);
        due("none beside it", x.smokes(), 1);
        // Chimneys are no stoves.
        x = housed("n1;h0c100,0;");
        due("a chimney alone", x.smokes(), 0);
        // The wind at a stove: it flows in.
        x = housed("n1;h0p952,0;h0s100,0;");
        x.set(1, 20);
        due("wind", x.smokes(), 1);
        due("lean(1)", x.lean(1), 1);
        // One of two is enough.
        x = housed("h0s100,0;h1p950,0;h1s100,0;");
        due("one of two", x.smokes(), 1);
        x.size(0, 0);
        due("none of two", x.smokes(), 0);
    }

    private static void promise16() {
        promise = 16;
        DraughtsByCandle x = housed(TWO_HOLES);
        due("stopped(0)", x.stopped(0), 50);
        due("stopped(1)", x.stopped(1), 0);
        due("stopped(3)", x.stopped(3), 0);
        due("stopped(4)", x.stopped(4), -1);
        due("stopped(5)", x.stopped(5), -1);
        due("stopped(-1)", x.stopped(-1), -1);
        due("refusals", refusals(x), 30000);
        due("sizes are as before", x.count(4), 2);
        x = housed("h0p100,0;h1p950,0;d019;");
        due("a door", x.stopped(4), 0);
        x = housed(times("d010;", 10));
        due("all of ten", x.stopped(1023), 0);
        due("one above", x.stopped(1024), -1);
    }

    private static void promise17() {
        promise = 17;
        DraughtsByCandle x = housed(TWO_HOLES);
        due("best(0, 0)", x.best(0, 0), 0);
        due("best(0, 1)", x.best(0, 1), 50);
        due("best(2, 0)", x.best(2, 0), 0);
        due("best(2, 1)", x.best(2, 1), 50);
        due("best(3, 0)", x.best(3, 0), 2);
        due("best(3, 1)", x.best(3, 1), 0);
        due("best(7, 0)", x.best(7, 0), 1);
        due("best(99, 0)", x.best(99, 0), 1);
        due("best(100, 0)", x.best(100, 0), -6);
        due("best(-1, 1)", x.best(-1, 1), -4);
        due("best(-1, 2)", x.best(-1, 2), -2);
        due("best(100, -1)", x.best(100, -1), -2);
        due("refusals", refusals(x), 2011);
        x = housed("n1;h0s100,5;");
        due("smoke", x.best(4, 0), -9);
        due("smoke", x.best(4, 1), -9);
        due("the stove's hole", x.best(5, 0), 1);
        due("the stove's hole", x.best(5, 1), 0);
        // Four inlets of 7 each beside a hole that takes them all: three at most are stopped; the door never is.
        x = housed("h1p950,9;h0p100,1;h0p100,1;h0p100,1;h0p100,1;d019;");
        int three = x.best(3, 1);
        due("three", x.best(3, 0), 14);
        due("three", three, x.stopped(14));
        due("four", x.best(8, 0), 14);
        due("the door", x.stopped(32), 0);
    }

    private static void promise18() {
        promise = 18;
        DraughtsByCandle x = housed("n1;h0p100,0;h0p950,0;h0p950,0;");
        due("coal()", x.coal(), 70);
        due("pairs(0)", x.pairs(0), 1);
        due("pairs(1)", x.pairs(1), 12);
        due("pairs(2)", x.pairs(2), -2);
        due("pairs(-1)", x.pairs(-1), -2);
        due("refusals", refusals(x), 2000);
        x = housed("n1;h0p950,0;h0p950,0;h0p100,0;");
        due("a pair with hole 0", x.pairs(0), 1);
        due("a pair with hole 0", x.pairs(1), 1);
        x = housed(TWO_HOLES);
        due("pairs(0)", x.pairs(0), 0);
        due("pairs(1)", x.pairs(1), -9);
        // Two rooms alike are two pairs, of which the first is told; doors are in none.
        x = housed("h1p100,0;h1p950,0;h1p950,0;h0p100,0;h0p950,0;h0p950,0;d010;");
        due("pairs(0)", x.pairs(0), 2);
        due("pairs(1)", x.pairs(1), 12);
        x = housed("h0p100,0;d019;d019;h1p950,0;");
        due("two doors", x.pairs(0), 0);
        due("both doors", x.stopped(6), 0);
    }

    private static void promise19() {
        promise = 19;
        DraughtsByCandle x = housed("h0p100,0;h1p950,0;d019;h1p150,0;h1p100,0;");
        x.size(1, 0);
        int before = x.flow(3);
        due("out by hole 3", before < 0 ? 1 : 0, 1);
        due("room 1 alone", x.shut(2, 3), 5 + before);
        due("room 0 alone", x.shut(2, 0), -x.flow(0));
        due("the door", x.shut(2, 2), -Math.abs(x.flow(2)));
        due("the door's size", x.hole(2, 3), 9);
        due("no door", x.shut(0, 2), FAR + 3);
        due("nobody", x.shut(5, 2), FAR + 1);
        due("nobody", x.shut(0, 5), FAR + 1);
        due("nobody", x.shut(-1, 2), FAR + 1);
        due("nobody", x.shut(2, -1), FAR + 1);
        due("refusals", refusals(x), 40100);
        // Room 1 alone is as the house of two holes.
        x = housed("d019;h0p950,0;h1p100,0;h1p150,0;");
        due("more through", x.shut(0, 3), 5 - Math.abs(x.flow(3)));
    }

    private static void promise20() {
        promise = 20;
        due("a new house", new DraughtsByCandle().chair(), 0);
        DraughtsByCandle x = housed("n3;h0p150,0;h0p100,0;h1p150,0;");
        due("nothing in 1 and 2", x.chair(), 1);
        x = housed("h0p250,0;h0p200,0;h1p150,0;h1p100,0;");
        due("half in 1", x.chair(), 1);
        x = housed("h0p150,0;h0p100,0;h1p150,0;h1p100,0;");
        due("alike", x.chair(), 0);
        // A door counts in both its rooms: 2 has the way in alone, 0 the way out and the door.
        x = housed("n3;d019;h0p150,0;h1p150,0;h1p100,0;d219;");
        due("behind a door", x.chair(), 2);
    }

    private static void promise21() {
        promise = 21;
        due("a new house", new DraughtsByCandle().finger(), -9);
        DraughtsByCandle x = housed(TWO_HOLES);
        due("the lower hole", x.finger(), 1);
        x.size(1, 9);
        due("wide already", x.finger(), -9);
        due("sizes are as before", x.count(4), 10);
        // Alike they make alike much: the least number. Doors are no holes.
        x = housed("h1p100,0;d019;h1p100,0;h1p250,0;");
        due("alike", x.finger(), 0);
        x.set(0, 0);
        due("nothing flows in", x.finger(), -9);
        // In room 1 it makes 5 and 12, in room 0 but 6 and 10.
        x = housed("h1p250,0;h1p200,0;h0p150,0;h0p100,0;");
        due("a later one", x.finger(), 3);
        x = housed("n1;h0p950,0;h0p900,0;");
        due("all are wide", x.finger(), -9);
        x.size(1, 8);
        due("up to 9", x.finger(), 1);
        // The door would make no more coal than before; it is no hole.
        x = housed("d013;h0p100,0;h1p150,0;");
        due("no door", x.finger(), 1);
        // A hole of no size yet may be the one.
        x = housed("n1;h0p150,0;h0p000,0;");
        due("of no size", x.finger(), 1);
        x = housed("n1;h0p150,0;h0p040,0;");
        x.set(0, 1);
        due("1 flows in then", x.finger(), 1);
    }

    private static void promise22() {
        promise = 22;
        DraughtsByCandle x = housed("n1;h0f100,0;h0p150,0;");
        x.set(1, 20);
        due("number(20)", x.number(20), 3);
        due("number(-20)", x.number(-20), 3);
        due("number(0)", x.number(0), 0);
        due("number(50)", x.number(50), 5);
        due("number(-50)", x.number(-50), 5);
        due("number(51)", x.number(51), -6);
        due("number(-51)", x.number(-51), -4);
        due("refusals", refusals(x), 11);
        due("warm", x.now(0), 10);
        due("wind", x.now(1), 20);
        due("fan", x.now(3), 0);
    }

    private static void promise23() {
        promise = 23;
        DraughtsByCandle x = housed(TWO_HOLES);
        due("none is told", x.winter(), 0);
        tell(x, "w10,0,0;w0,20,0;");
        due("two", x.winter(), 50);
        tell(x, "w20,0,0;w10,0,3;");
        due("four", x.winter(), 240);
        x.set(0, 0);
        due("now is another", x.winter(), 240);
        // The fan is as now.
        x = housed("n1;h0f150,0;h0p150,0;w1,0,2;");
        x.fan(20);
        due("with a fan", x.winter(), 3);
    }

    private static void promise24() {
        promise = 24;
        DraughtsByCandle x = housed("n1;h0p150,0;h0p152,0;w0,4,0;w0,0,0;");
        due("0 is no lean", x.turnsAbout(), 0);
        tell(x, "w0,4,2;");
        due("both", x.turnsAbout(), 3);
        x.size(0, 0);
        due("nothing flows", x.turnsAbout(), 0);
        // 1 in and 1 out, then the other way.
        x = housed("n1;h0p150,0;h0p152,0;w0,2,0;w0,2,2;");
        due("by a flow of 1", x.turnsAbout(), 3);
        // A fan holds against one of the winds alone; the weather now is none of those told.
        x = housed("n1;h0f150,0;h0p152,0;w0,4,0;");
        x.set(1, 4);
        x.set(2, 2);
        due("one weather", x.turnsAbout(), 0);
        tell(x, "w0,4,2;");
        due("without the fan", x.turnsAbout(), 3);
        x.fan(50);
        due("with the fan", x.turnsAbout(), 0);
        // Doors are told too: hole, door, hole one behind another.
        x = housed("h0p150,0;d011;h1p152,0;w0,9,0;w0,9,2;");
        due("a door", x.turnsAbout(), 7);
    }

    private static void promise25() {
        promise = 25;
        DraughtsByCandle x = housed(TWO_HOLES);
        due("sizes(1, 6, 0)", x.sizes(1, 6, 0), 2);
        due("sizes(1, 6, 1)", x.sizes(1, 6, 1), 6);
        due("sizes(1, 6, 2)", x.sizes(1, 6, 2), 3);
        due("sizes(1, 5, 0)", x.sizes(1, 5, 0), 1);
        due("sizes(1, 5, 1)", x.sizes(1, 5, 1), 1);
        due("sizes(1, 8, 0)", x.sizes(1, 8, 0), 4);
        due("sizes(1, 0, 0)", x.sizes(1, 0, 0), 0);
        due("sizes(0, -5, 1)", x.sizes(0, -5, 1), 1);
        due("none", x.sizes(1, -1, 0), -9);
        due("none", x.sizes(1, -1, 1), -9);
        due("none", x.sizes(1, -1, 2), 0);
        due("sizes are as before", x.count(4), 2);
        due("sizes(2, 0, 3)", x.sizes(2, 0, 3), -1);
        due("sizes(-1, 0, 0)", x.sizes(-1, 0, 0), -1);
        due("sizes(0, 0, 3)", x.sizes(0, 0, 3), -2);
        due("sizes(0, 0, -1)", x.sizes(0, 0, -1), -2);
        due("refusals", refusals(x), 22000);
        x = housed("h0p150,0;d014;");
        x.set(0, 0);
        due("all ten of a door", x.sizes(1, 0, 2), 10);
        due("all ten of a door", x.sizes(1, 0, 1), 9);
    }

    private static void promise26() {
        promise = 26;
        DraughtsByCandle x = housed("n2;h0p150,7;h0p100,3;");
        due("of no size", x.hidden(0, 50), 0);
        due("in the first", x.hidden(1, 60), 0);
        due("in the second", x.hidden(1, 50), 1);
        due("nowhere", x.hidden(1, 61), -9);
        due("holes are as before", x.count(1), 2);
        due("hidden(-1, 0)", x.hidden(-1, 0), -4);
        due("hidden(0, -1)", x.hidden(0, -1), -4);
        due("hidden(10, -1)", x.hidden(10, -1), -4);
        due("hidden(10, 0)", x.hidden(10, 0), -6);
        due("refusals", refusals(x), 31);
        // Its side is 0: with the wind there it is as much as 16 outside.
        x = housed("n1;h0p151,0;");
        x.set(0, 1);
        x.set(1, 4);
        due("by the wind", x.hidden(1, 2), 0);
        x.set(2, 1);
        due("by another", x.hidden(1, 2), 0);
        x.set(2, 3);
        due("by the other side's", x.hidden(1, 2), 0);
        x.set(1, 0);
        due("without wind", x.hidden(1, 2), -9);
        x = housed(times("d010;", 9));
        due("nine are there", x.hidden(9, 0), 0);
        tell(x, "d010;");
        due("ten are there", x.hidden(9, 0), -6);
        due("ten are there", x.hidden(-1, 0), -4);
    }

    private static void promise27() {
        promise = 27;
        // Alone in its room the stove's hole smokes unless the room can't come down to its push in 200 rounds.
        DraughtsByCandle x = housed("n1;h0s150,0;");
        int[] seeds = {0, 1, -1, 123456789, Integer.MIN_VALUE, Integer.MAX_VALUE};
        for (int seed : seeds) {
            int smoky = 0;
            long z = seed;
            for (int day = 1; day <= 30; day++) {
                int[] drawn = new int[3];
                for (int i = 0; i < 3; i++) {
                    z = (z * 1664525L + 1013904223L) & 0xffffffffL;
                    drawn[i] = (int) ((z & 0x7fffffffL) / 256 % (i == 0 ? 41 : i == 1 ? 21 : 4));
                }
                int wind = drawn[1] * drawn[1];
                int outside = -4 * drawn[0] - 2 * drawn[1] - 20 + (drawn[2] == 0 ? wind : drawn[2] == 2 ? -(wind / 2) : 0);
                // Above 0 it flows in or comes to rest; below -200 it flows out still.
                if (outside >= -200) smoky++;
                if (day == 1 || day == 7 || day == 30) due("days(" + day + ", " + seed + ")", x.days(day, seed), smoky);
            }
        }
        due("now is as before", x.now(0) * 100 + x.now(1) * 10 + x.now(2), 1000);
        due("days(0, 5)", x.days(0, 5), -4);
        due("days(-7, 5)", x.days(-7, 5), -4);
        due("days(31, 5)", x.days(31, 5), -6);
        due("refusals", refusals(x), 21);
        due("no stove", housed(TWO_HOLES).days(30, 5), 0);
    }

    private static void promise28() {
        promise = 28;
        DraughtsByCandle x = new DraughtsByCandle();
        due("row(3)", x.row(3), -6);
        due("row(-1)", x.row(-1), -4);
        for (int i = 1; i <= 10; i++) due("row", x.row(i % 3), i);
        due("the eleventh", x.row(0), -6);
        due("the eleventh", x.row(-1), -4);
        due("in the row", x.count(5), 10);
        due("refusals", refusals(x), 22);
    }

    private static int judged(DraughtsByCandle x, int... leans) {
        for (int lean : leans) x.row(lean);
        int judged = x.judge();
        due("in the row behind it", x.count(5), 0);
        return judged;
    }

    private static void promise29() {
        promise = 29;
        DraughtsByCandle x = housed(TWO_HOLES);
        due("as it is", judged(x, 2, 1), -9);
        due("the first not so", judged(x, 1, 1), 0);
        due("the second not so", judged(x, 2, 2), 1);
        due("none", judged(x), 0);
        due("too short", judged(x, 2), 1);
        due("short and not so", judged(x, 0), 0);
        due("too long", judged(x, 2, 1, 0), 2);
        due("long and not so", judged(x, 2, 0, 0), 1);
        due("no holes", judged(new DraughtsByCandle()), -9);
        due("no holes, one told", judged(new DraughtsByCandle(), 0), 0);
        due("refusals", refusals(x), 0);
    }

    private static void promise30And31() {
        promise = 31;
        DraughtsByCandle x = housed("n3;d125;h0p150,7;w1,2,3;");
        due("on() of none", x.on(), -3);
        due("refusals", refusals(x), 100);
        x.set(0, 20);
        x.set(1, 5);
        x.set(2, 1);
        x.fan(9);
        x.row(1);
        x.letter('n');
        promise = 30;
        due("image()", x.image(), 2);
        due("nothing changes", x.count(0) * 10 + x.count(6), 31);

        x.letter('6');
        x.letter(';');
        x.house();
        tell(x, "h4s111,1;w4,4,0;");
        x.size(0, 0);
        x.size(1, 9);
        x.set(0, 1);
        x.set(1, 1);
        x.set(2, 0);
        x.fan(-9);
        x.row(2);
        x.row(7);
        due("rooms in between", x.count(0), 6);
        promise = 31;
        for (int time = 0; time < 2; time++) {
            due("on()", x.on(), 2);
            due("rooms", x.count(0), 3);
            due("weathers", x.count(3), 1);
            due("sizes", x.count(4), 6);
            due("size of the door", x.hole(0, 3), 5);
            due("size of the hole", x.hole(1, 3), 1);
            due("warm", x.now(0), 20);
            due("wind", x.now(1), 5);
            due("side", x.now(2), 1);
            due("fan", x.now(3), 9);
            due("in the row", x.count(5), 1);
            due("letters", x.count(6), 1);
            due("refusals", refusals(x), 101 + time);
            tell(x, "5;h0p000,0;");
            x.set(0, 3);
            x.judge();
            x.row(5);
        }
        due("a later image()", x.image(), 3);
        x.size(2, 4);
        tell(x, "h0p000,0;");
        due("on()", x.on(), 3);
        due("size", x.hole(2, 3), 0);
        due("rooms", x.count(0), 5);
    }

    private static void promise32() {
        promise = 32;
        DraughtsByCandle x = housed("n5;d125;d341;h0p950,7;w1,2,3;w1,2,3;w0,0,0;");
        x.row(1);
        x.row(0);
        x.letter('x');
        int[] want = {5, 3, 2, 3, 15, 2, 1};
        for (int what = 0; what < want.length; what++) due("count(" + what + ")", x.count(what), want[what]);
        x.lean(9);
        x.push(9);
        x.pairs(9);
        x.now(9);
        x.set(9, 9);
        x.shut(2, 2);
        x.days(0, 0);
        x.days(31, 0);
        x.best(100, 0);
        x.number(51);
        x.number(60);
        int[] refused = {2, 3, 1, 1, 0, 4};
        for (int i = 0; i < refused.length; i++) due("count(" + (11 + i) + ")", x.count(11 + i), refused[i]);
        int[] others = {-1, 7, 10, 17, Integer.MIN_VALUE, Integer.MAX_VALUE};
        for (int what : others) due("count(" + what + ")", x.count(what), -9);
        due("refusals", refusals(x), 23114);
    }
}
