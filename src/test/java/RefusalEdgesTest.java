import java.util.ArrayList;
import java.util.List;
import java.util.function.Supplier;

/** REFUSALS, counts, the row and the image: what is refused first, and that nothing else changes by it. */
public final class RefusalEdgesTest {
    private static final int LEAST = Integer.MIN_VALUE;
    private static final int GREATEST = Integer.MAX_VALUE;

    private interface Call {
        int to(DraughtsByCandle x);
    }

    /** How an object comes to be before a call is refused. */
    private static Supplier<DraughtsByCandle> state;

    public static void main(String[] args) {
        state = RefusalEdgesTest::some;
        lettersRefused();
        holesRefused();
        weathersRefused();
        setsRefused();
        fansRefused();
        nowRefused();
        sizeRefused();
        outsideRefused();
        pushRefused();
        flowRefused();
        leanRefused();
        stoppedRefused();
        bestRefused();
        pairsRefused();
        shutRefused();
        numberRefused();
        sizesRefused();
        hiddenRefused();
        daysRefused();
        rowRefused();
        onRefused();
        fullIsRefused();
        newObjectsRefuse();
        noneIsNoRefusal();
        askingChangesNothing();
        eachAskedBehindEach();
        nothingOfAFaultIsSeen();
        nothingBehindTheImageIsSeen();
        eachRefusalIsCounted();
        rowsFromNoneToTen();
        countsOfAll();
        imageOfAllThatIsTold();
        imageOfNothingTold();
        imageTakenAgain();
        imageIsNoneAtFirst();
        lastOf512Calls();
        Due.end();
    }

    // ---- states

    /** A door (0), a hole (1), a stove's hole (2); letters and a row begun; an image that is otherwise. */
    private static DraughtsByCandle some() {
        DraughtsByCandle x = new DraughtsByCandle();
        Due.tell(x, "n4;d013;h0p450,7;h3s902,5;w5,6,1;w40,20,3;");
        x.set(0, 22);
        x.set(1, 9);
        x.set(2, 3);
        x.fan(-17);
        x.row(1);
        Due.letters(x, "n");
        x.image();
        Due.letters(x, "6;h5l111,1;");
        x.size(1, 8);
        x.set(0, 23);
        x.row(2);
        return x;
    }

    /** Ten holes and doors, four weathers, 80 letters, ten in the row. */
    private static DraughtsByCandle full() {
        DraughtsByCandle x = new DraughtsByCandle();
        Due.tell(x, "n6;d053;h0s301,5;d125;h2w230,20;w1,1,1;w40,20,3;w9,9,0;w5,6,2;");
        Due.tell(x, "h3f453,7;d342;h4l501,3;h5t180,30;d102;h0p000,0;");
        x.image();
        for (int i = 0; i < 10; i++) x.row(i % 3);
        Due.letters(x, "n6;".repeat(26) + "n5");
        x.set(0, 40);
        x.set(1, 20);
        x.fan(50);
        return x;
    }

    /** All that can be seen of an object; the refusals stand behind it, apart. */
    private static List<Integer> seen(DraughtsByCandle x) {
        List<Integer> all = new ArrayList<>();
        for (int what = 0; what <= 6; what++) all.add(x.count(what));
        int rooms = all.get(0);
        int openings = all.get(1);
        int weathers = all.get(3);
        for (int i = 0; i < openings; i++) {
            for (int what = 0; what <= 6; what++) all.add(x.hole(i, what));
            all.add(x.flow(i));
        }
        for (int i = 0; i < weathers; i++) {
            for (int what = 0; what <= 2; what++) all.add(x.weather(i, what));
        }
        for (int what = 0; what <= 3; what++) all.add(x.now(what));
        for (int room = 0; room < rooms; room++) all.add(x.push(room));
        return all;
    }

    /** What cannot be asked comes to light in the end: the letters, the row, the image. */
    private static List<Integer> seenToTheEnd(DraughtsByCandle x) {
        List<Integer> all = seen(x);
        all.add(x.judge());
        all.add(x.house());
        all.add(x.count(0));
        all.add(x.count(1));
        all.add(x.on());
        all.addAll(seen(x));
        all.add(x.judge());
        all.add(x.house());
        return all;
    }

    private static void refused(String name, int answer, Call call) {
        DraughtsByCandle x = state.get();
        DraughtsByCandle quiet = state.get();
        int[] before = Due.refusals(x);
        Due.is(name, call.to(x), answer);
        int number = answer > 0 ? answer - Due.FAR : -answer;
        int[] behind = Due.refusals(x);
        for (int i = 0; i < 6; i++) {
            Due.is("refusals -" + (i + 1) + " by " + name, behind[i] - before[i], i + 1 == number ? 1 : 0);
        }
        Due.is("nothing else is changed by " + name, seenToTheEnd(x).equals(seenToTheEnd(quiet)) ? 1 : 0, 1);
    }

    private static void unchanged(String name, Call call) {
        DraughtsByCandle x = state.get();
        DraughtsByCandle quiet = state.get();
        call.to(x);
        for (int i = 11; i <= 16; i++) Due.is("count(" + i + ") by " + name, x.count(i), quiet.count(i));
        Due.is("nothing is changed by " + name, seenToTheEnd(x).equals(seenToTheEnd(quiet)) ? 1 : 0, 1);
    }

    // ---- the refusals of each call, in their order

    private static void lettersRefused() {
        Due.sentence("letter: -4; -6 (255; 80, too)");
        int[] below = {-1, -2, -256, LEAST};
        for (int c : below) refused("letter(" + c + ")", -4, x -> x.letter(c));
        int[] above = {256, 257, 256 + 'n', GREATEST};
        for (int c : above) refused("letter(" + c + ")", -6, x -> x.letter(c));
    }

    private static void holesRefused() {
        Due.sentence("hole: -1; -2");
        int[] nobody = {3, 4, 9, 10, 11, -1, -9, LEAST, GREATEST};
        int[] others = {7, 8, -1, -9, LEAST, GREATEST};
        for (int hole : nobody) {
            refused("hole(" + hole + ", 0)", -1, x -> x.hole(hole, 0));
            refused("hole(" + hole + ", 6)", -1, x -> x.hole(hole, 6));
            for (int what : others) refused("hole(" + hole + ", " + what + ")", -1, x -> x.hole(hole, what));
        }
        for (int what : others) {
            refused("hole(0, " + what + ")", -2, x -> x.hole(0, what));
            refused("hole(2, " + what + ")", -2, x -> x.hole(2, what));
        }
    }

    private static void weathersRefused() {
        Due.sentence("weather: -1; -2");
        int[] nobody = {2, 3, 4, 5, -1, LEAST, GREATEST};
        int[] others = {3, 4, -1, LEAST, GREATEST};
        for (int weather : nobody) {
            refused("weather(" + weather + ", 0)", -1, x -> x.weather(weather, 0));
            refused("weather(" + weather + ", 2)", -1, x -> x.weather(weather, 2));
            for (int what : others) refused("weather(" + weather + ", " + what + ")", -1, x -> x.weather(weather, what));
        }
        for (int what : others) {
            refused("weather(0, " + what + ")", -2, x -> x.weather(0, what));
            refused("weather(1, " + what + ")", -2, x -> x.weather(1, what));
        }
    }

    private static void setsRefused() {
        Due.sentence("set: -2; -4; -6");
        int[] others = {3, 4, -1, LEAST, GREATEST};
        int[] values = {0, 1, -1, 41, LEAST, GREATEST};
        for (int what : others) {
            for (int v : values) refused("set(" + what + ", " + v + ")", -2, x -> x.set(what, v));
        }
        int[] above = {41, 21, 4};
        for (int i = 0; i < 3; i++) {
            int what = i;
            refused("set(" + what + ", -1)", -4, x -> x.set(what, -1));
            refused("set(" + what + ", least)", -4, x -> x.set(what, LEAST));
            refused("set(" + what + ", " + above[i] + ")", -6, x -> x.set(what, above[what]));
            refused("set(" + what + ", greatest)", -6, x -> x.set(what, GREATEST));
        }
    }

    private static void fansRefused() {
        Due.sentence("fan: -4 below -50; -6 50");
        refused("fan(-51)", -4, x -> x.fan(-51));
        refused("fan(least)", -4, x -> x.fan(LEAST));
        refused("fan(51)", -6, x -> x.fan(51));
        refused("fan(greatest)", -6, x -> x.fan(GREATEST));
    }

    private static void nowRefused() {
        Due.sentence("now: Refused as told: -2 (1000000002)");
        int[] others = {4, 5, -1, LEAST, GREATEST};
        for (int what : others) refused("now(" + what + ")", Due.FAR + 2, x -> x.now(what));
    }

    private static void sizeRefused() {
        Due.sentence("size: -1; -4; -6");
        int[] nobody = {3, 10, -1, LEAST, GREATEST};
        int[] values = {0, 9, -1, 10, LEAST, GREATEST};
        for (int hole : nobody) {
            for (int v : values) refused("size(" + hole + ", " + v + ")", -1, x -> x.size(hole, v));
        }
        for (int i = 0; i < 3; i++) {
            int hole = i;
            refused("size(" + hole + ", -1)", -4, x -> x.size(hole, -1));
            refused("size(" + hole + ", least)", -4, x -> x.size(hole, LEAST));
            refused("size(" + hole + ", 10)", -6, x -> x.size(hole, 10));
            refused("size(" + hole + ", greatest)", -6, x -> x.size(hole, GREATEST));
        }
    }

    private static void outsideRefused() {
        Due.sentence("outside: Refused as told: -1; -3 a DOOR (1000000001, 1000000003)");
        int[] nobody = {3, 10, -1, LEAST, GREATEST};
        for (int hole : nobody) refused("outside(" + hole + ")", Due.FAR + 1, x -> x.outside(hole));
        refused("outside(0)", Due.FAR + 3, x -> x.outside(0));
    }

    private static void pushRefused() {
        Due.sentence("push: Refused as told: -1 (1000000001)");
        int[] nobody = {4, 5, 6, -1, LEAST, GREATEST};
        for (int room : nobody) refused("push(" + room + ")", Due.FAR + 1, x -> x.push(room));
    }

    private static void flowRefused() {
        Due.sentence("flow: Refused as told: -1 (1000000001)");
        int[] nobody = {3, 10, -1, LEAST, GREATEST};
        for (int hole : nobody) refused("flow(" + hole + ")", Due.FAR + 1, x -> x.flow(hole));
    }

    private static void leanRefused() {
        Due.sentence("lean: -1");
        int[] nobody = {3, 10, -1, LEAST, GREATEST};
        for (int hole : nobody) refused("lean(" + hole + ")", -1, x -> x.lean(hole));
    }

    private static void stoppedRefused() {
        Due.sentence("stopped: -1 bits of none");
        int[] none = {8, 9, 15, 16, 1 << 10, 1 << 30, -1, LEAST, GREATEST};
        for (int bits : none) refused("stopped(" + bits + ")", -1, x -> x.stopped(bits));
    }

    private static void bestRefused() {
        Due.sentence("best: -2; -4; -6 99");
        int[] others = {2, 3, -1, LEAST, GREATEST};
        int[] coins = {0, 99, -1, 100, LEAST, GREATEST};
        for (int what : others) {
            for (int coin : coins) refused("best(" + coin + ", " + what + ")", -2, x -> x.best(coin, what));
        }
        for (int i = 0; i < 2; i++) {
            int what = i;
            refused("best(-1, " + what + ")", -4, x -> x.best(-1, what));
            refused("best(least, " + what + ")", -4, x -> x.best(LEAST, what));
            refused("best(100, " + what + ")", -6, x -> x.best(100, what));
            refused("best(greatest, " + what + ")", -6, x -> x.best(GREATEST, what));
        }
    }

    private static void pairsRefused() {
        Due.sentence("pairs: -2");
        int[] others = {2, 3, -1, LEAST, GREATEST};
        for (int what : others) refused("pairs(" + what + ")", -2, x -> x.pairs(what));
    }

    private static void shutRefused() {
        Due.sentence("shut: Refused as told: -1 either; -3 it is no DOOR (1000000001, 1000000003)");
        int[] nobody = {3, 10, -1, LEAST, GREATEST};
        for (int i : nobody) {
            refused("shut(" + i + ", 0)", Due.FAR + 1, x -> x.shut(i, 0));
            refused("shut(0, " + i + ")", Due.FAR + 1, x -> x.shut(0, i));
            refused("shut(1, " + i + ")", Due.FAR + 1, x -> x.shut(1, i));
            refused("shut(" + i + ", " + i + ")", Due.FAR + 1, x -> x.shut(i, i));
        }
        for (int i = 0; i < 3; i++) {
            int hole = i;
            refused("shut(1, " + hole + ")", Due.FAR + 3, x -> x.shut(1, hole));
            refused("shut(2, " + hole + ")", Due.FAR + 3, x -> x.shut(2, hole));
        }
    }

    private static void numberRefused() {
        Due.sentence("number: -4; -6 likewise (-50, 50)");
        refused("number(-51)", -4, x -> x.number(-51));
        refused("number(least)", -4, x -> x.number(LEAST));
        refused("number(51)", -6, x -> x.number(51));
        refused("number(greatest)", -6, x -> x.number(GREATEST));
    }

    private static void sizesRefused() {
        Due.sentence("sizes: -1; -2");
        int[] nobody = {3, 10, -1, LEAST, GREATEST};
        int[] others = {3, 4, -1, LEAST, GREATEST};
        for (int hole : nobody) {
            refused("sizes(" + hole + ", 0, 0)", -1, x -> x.sizes(hole, 0, 0));
            for (int what : others) refused("sizes(" + hole + ", 0, " + what + ")", -1, x -> x.sizes(hole, 0, what));
        }
        for (int what : others) {
            refused("sizes(0, 0, " + what + ")", -2, x -> x.sizes(0, 0, what));
            refused("sizes(2, least, " + what + ")", -2, x -> x.sizes(2, LEAST, what));
        }
    }

    private static void hiddenRefused() {
        Due.sentence("hidden: -4 (either below 0); -6 (size 9; 10 HOLES and DOORS are there)");
        int[] below = {-1, -2, LEAST};
        for (int v : below) {
            refused("hidden(" + v + ", 0)", -4, x -> x.hidden(v, 0));
            refused("hidden(0, " + v + ")", -4, x -> x.hidden(0, v));
            refused("hidden(10, " + v + ")", -4, x -> x.hidden(10, v));
            refused("hidden(" + v + ", " + v + ")", -4, x -> x.hidden(v, v));
        }
        refused("hidden(10, 0)", -6, x -> x.hidden(10, 0));
        refused("hidden(greatest, 0)", -6, x -> x.hidden(GREATEST, 0));
        refused("hidden(greatest, greatest)", -6, x -> x.hidden(GREATEST, GREATEST));
    }

    private static void daysRefused() {
        Due.sentence("days: -4; -6 30");
        int[] seeds = {0, -1, GREATEST};
        for (int z : seeds) {
            refused("days(0, " + z + ")", -4, x -> x.days(0, z));
            refused("days(-1, " + z + ")", -4, x -> x.days(-1, z));
            refused("days(least, " + z + ")", -4, x -> x.days(LEAST, z));
            refused("days(31, " + z + ")", -6, x -> x.days(31, z));
            refused("days(greatest, " + z + ")", -6, x -> x.days(GREATEST, z));
        }
    }

    private static void rowRefused() {
        Due.sentence("row: -4; -6 (2; 10, too)");
        refused("row(-1)", -4, x -> x.row(-1));
        refused("row(least)", -4, x -> x.row(LEAST));
        refused("row(3)", -6, x -> x.row(3));
        refused("row(greatest)", -6, x -> x.row(GREATEST));
    }

    private static void onRefused() {
        Due.sentence("on: -3 there is none");
        state = DraughtsByCandle::new;
        refused("on() of a new object", -3, x -> x.on());
        state = () -> Due.housed("n3;d123;h0p111,1;w4,5,1;");
        refused("on() without an image", -3, x -> x.on());
        state = RefusalEdgesTest::some;
    }

    private static void fullIsRefused() {
        Due.sentence("-6 ROOM: .. no room");
        state = RefusalEdgesTest::full;
        int[] letters = {0, 'n', ';', 255};
        for (int c : letters) refused("the 81st letter(" + c + ")", -6, x -> x.letter(c));
        refused("the 81st letter(256)", -6, x -> x.letter(256));
        refused("the 81st letter(-1)", -4, x -> x.letter(-1));
        for (int i = 0; i < 3; i++) {
            int lean = i;
            refused("the eleventh row(" + lean + ")", -6, x -> x.row(lean));
        }
        refused("the eleventh row(3)", -6, x -> x.row(3));
        refused("the eleventh row(-1)", -4, x -> x.row(-1));
        refused("hidden(0, 0) beside ten", -6, x -> x.hidden(0, 0));
        refused("hidden(9, 100) beside ten", -6, x -> x.hidden(9, 100));
        refused("hidden(-1, 0) beside ten", -4, x -> x.hidden(-1, 0));
        refused("hidden(0, -1) beside ten", -4, x -> x.hidden(0, -1));
        refused("hole(10, 0) beside ten", -1, x -> x.hole(10, 0));
        refused("weather(4, 0) beside four", -1, x -> x.weather(4, 0));
        refused("stopped(1024) beside ten", -1, x -> x.stopped(1024));
        refused("size(10, 0) beside ten", -1, x -> x.size(10, 0));
        refused("push(6) beside six", Due.FAR + 1, x -> x.push(6));
        refused("flow(10) beside ten", Due.FAR + 1, x -> x.flow(10));
        refused("shut(0, 10) beside ten", Due.FAR + 1, x -> x.shut(0, 10));
        DraughtsByCandle x = full();
        Due.is("the last hole", x.hole(9, 0), 0);
        Due.is("the last weather", x.weather(3, 2), 2);
        Due.is("the last room", x.push(5) < Due.FAR ? 1 : 0, 1);
        Due.is("all stopped", x.stopped(1023), 0);
        state = RefusalEdgesTest::some;
    }

    private static void newObjectsRefuse() {
        Due.sentence("-1 NOBODY: no such ROOM, HOLE, DOOR (of a new object)");
        state = DraughtsByCandle::new;
        refused("hole(0, 0)", -1, x -> x.hole(0, 0));
        refused("weather(0, 0)", -1, x -> x.weather(0, 0));
        refused("size(0, 0)", -1, x -> x.size(0, 0));
        refused("outside(0)", Due.FAR + 1, x -> x.outside(0));
        refused("push(2)", Due.FAR + 1, x -> x.push(2));
        refused("flow(0)", Due.FAR + 1, x -> x.flow(0));
        refused("lean(0)", -1, x -> x.lean(0));
        refused("stopped(1)", -1, x -> x.stopped(1));
        refused("shut(0, 0)", Due.FAR + 1, x -> x.shut(0, 0));
        refused("sizes(0, 0, 0)", -1, x -> x.sizes(0, 0, 0));
        state = RefusalEdgesTest::some;
    }

    /** -9 and a FAULT are no REFUSALS. */
    private static void noneIsNoRefusal() {
        Due.sentence("REFUSALS: .. -9 is none of them");
        unchanged("count(7)", x -> x.count(7));
        unchanged("count(17)", x -> x.count(17));
        unchanged("hole(1, 1)", x -> x.hole(1, 1));
        unchanged("sizes(1, greatest, 0)", x -> x.sizes(1, GREATEST, 0));
        unchanged("sizes(1, least, 1)", x -> x.sizes(1, LEAST, 1));
        unchanged("hidden(9, greatest)", x -> x.hidden(9, GREATEST));
        unchanged("pairs(1)", x -> x.pairs(1));
        state = DraughtsByCandle::new;
        unchanged("house() of no letters", x -> x.house());
        unchanged("judge() of none", x -> x.judge());
        unchanged("finger() of none", x -> x.finger());
        unchanged("pairs(1) of none", x -> x.pairs(1));
        unchanged("hidden(1, 50)", x -> x.hidden(1, 50));
        state = () -> Due.housed("n1;h0s100,5;");
        unchanged("best(4, 0)", x -> x.best(4, 0));
        unchanged("best(4, 1)", x -> x.best(4, 1));
        state = RefusalEdgesTest::some;
    }

    private static void askingChangesNothing() {
        Due.sentence("In mind, all as now");
        List<Supplier<DraughtsByCandle>> states = List.of(RefusalEdgesTest::some, RefusalEdgesTest::full);
        for (Supplier<DraughtsByCandle> which : states) {
            state = which;
            unchanged("hole(2, 3)", x -> x.hole(2, 3));
            unchanged("weather(1, 1)", x -> x.weather(1, 1));
            unchanged("now(3)", x -> x.now(3));
            unchanged("outside(1)", x -> x.outside(1));
            unchanged("push(3)", x -> x.push(3));
            unchanged("flow(2)", x -> x.flow(2));
            unchanged("lean(2)", x -> x.lean(2));
            unchanged("coal()", x -> x.coal());
            unchanged("smokes()", x -> x.smokes());
            unchanged("stopped(7)", x -> x.stopped(7));
            unchanged("best(99, 0)", x -> x.best(99, 0));
            unchanged("best(99, 1)", x -> x.best(99, 1));
            unchanged("pairs(0)", x -> x.pairs(0));
            unchanged("shut(0, 1)", x -> x.shut(0, 1));
            unchanged("chair()", x -> x.chair());
            unchanged("finger()", x -> x.finger());
            unchanged("number(-50)", x -> x.number(-50));
            unchanged("winter()", x -> x.winter());
            unchanged("turnsAbout()", x -> x.turnsAbout());
            unchanged("sizes(2, 9, 2)", x -> x.sizes(2, 9, 2));
            unchanged("days(30, -1)", x -> x.days(30, -1));
            unchanged("count(16)", x -> x.count(16));
        }
        state = RefusalEdgesTest::some;
        unchanged("hidden(9, 0)", x -> x.hidden(9, 0));
        unchanged("hidden(9, greatest)", x -> x.hidden(9, GREATEST));
    }

    private static final Call JUDGE = x -> x.judge();

    /** Calls that only ask, with arguments that tell much of a house of five and more. */
    private static final List<Call> ASKS = List.of(x -> x.push(0), x -> x.push(1), x -> x.push(2), x -> x.flow(0),
            x -> x.flow(2), x -> x.flow(4), x -> x.lean(1), x -> x.coal(), x -> x.smokes(), x -> x.stopped(0),
            x -> x.stopped(1), x -> x.stopped(26), x -> x.best(0, 1), x -> x.best(3, 0), x -> x.best(99, 1), x -> x.pairs(0),
            x -> x.pairs(1), x -> x.shut(2, 0), x -> x.shut(2, 2), x -> x.chair(), x -> x.finger(), x -> x.number(50),
            x -> x.number(-7), x -> x.winter(), x -> x.turnsAbout(), x -> x.sizes(1, 5, 2), x -> x.sizes(2, 0, 0),
            x -> x.hidden(3, 0), x -> x.hidden(9, 990), x -> x.hidden(9, 0), x -> x.days(9, 5), JUDGE,
            x -> x.count(0), x -> x.count(1), x -> x.count(2), x -> x.count(3), x -> x.count(4), x -> x.count(5),
            x -> x.stopped(32), x -> x.hole(5, 3), x -> x.weather(2, 0), x -> x.sizes(5, 0, 0), x -> x.outside(5));

    /** Five holes and doors, two weathers, a row that is so for its beginning. */
    private static DraughtsByCandle asked() {
        DraughtsByCandle x = Due.housed("n3;h0p150,1;h0p100,2;d013;h1f250,3;h2s230,4;w5,6,1;w9,9,0;");
        x.fan(20);
        for (int i = 0; i < 4; i++) x.row(x.lean(i));
        return x;
    }

    private static void eachAskedBehindEach() {
        Due.sentence("In mind, all as now (each asking by itself, whatever is asked ahead of it)");
        for (int first = 0; first < ASKS.size(); first++) {
            for (int second = 0; second < ASKS.size(); second++) {
                DraughtsByCandle x = asked();
                int begun = ASKS.get(first).to(x);
                DraughtsByCandle quiet = asked();
                // It is the one that leaves something behind: a ROW of none.
                if (ASKS.get(first) == JUDGE) quiet.judge();
                Due.is("asking " + second + " behind " + first + " (" + begun + ")", ASKS.get(second).to(x), ASKS.get(second).to(quiet));
            }
        }
    }

    private static void allAsQuiet(String name, Supplier<DraughtsByCandle> disturbed, Supplier<DraughtsByCandle> quiet) {
        for (int i = 0; i < ASKS.size(); i++) {
            Due.is("asking " + i + " " + name, ASKS.get(i).to(disturbed.get()), ASKS.get(i).to(quiet.get()));
        }
    }

    private static void nothingOfAFaultIsSeen() {
        Due.sentence("Without FAULT all of it comes, with one nothing");
        String[] texts = {"h0p990,0;h1w902,0;h2l950,0;h1s910,0;h0t300,0;w40,20,2;w0,0,0;n0;", "d019;d129;d029;d109;d219;w40,20,3;n0;",
            "n6;h5p950,0;h0p900,0;n0;", "h0f950,0;h1p950,0;h2s900,0;h2p9", "h0s900,0;n0;"};
        for (String text : texts) {
            allAsQuiet("behind " + text, () -> {
                DraughtsByCandle x = asked();
                // What is in mind alone (a HOLE of SIZE 9 more) may not come to what the FAULT has left.
                x.hidden(9, Integer.MAX_VALUE);
                Due.is("a fault", Due.tell(x, text) < 0 ? 1 : 0, 1);
                return x;
            }, RefusalEdgesTest::asked);
        }
    }

    private static void nothingBehindTheImageIsSeen() {
        Due.sentence("ON from it all is as then");
        String[] texts = {"h0p990,0;h1w902,0;h2l950,0;h1s910,0;h0t300,0;w40,20,2;w0,0,0;", "d019;d129;d029;d109;d219;w40,20,3;",
            "n6;h5p950,0;h0p900,0;d539;", "h0f950,0;h1p950,0;h2s900,0;h2p950,7;", "h0s900,0;"};
        for (String text : texts) {
            allAsQuiet("behind the image and " + text, () -> {
                DraughtsByCandle x = asked();
                x.image();
                Due.is("more is told", Due.tell(x, text) > 0 ? 1 : 0, 1);
                x.set(1, 20);
                Due.is("smokes() by the wind", x.smokes(), 1);
                x.judge();
                x.row(0);
                x.on();
                return x;
            }, RefusalEdgesTest::asked);
        }
    }

    private static void eachRefusalIsCounted() {
        Due.sentence("11 .. 16 REFUSALS -1 .. -6 (how many there were)");
        DraughtsByCandle x = new DraughtsByCandle();
        int[] counts = new int[6];
        for (int i = 0; i < 30; i++) {
            x.lean(0);
            x.flow(0);
            counts[0] += 2;
            if (i % 2 == 0) x.now(4);
            if (i % 2 == 1) x.pairs(2);
            counts[1]++;
            if (i % 3 == 0) {
                x.on();
                counts[2]++;
            }
            x.letter(-1);
            x.row(3);
            x.fan(51);
            counts[3]++;
            counts[5] += 2;
            int[] now = Due.refusals(x);
            if (i % 5 == 0) for (int k = 0; k < 6; k++) Due.is("count(" + (11 + k) + ")", now[k], counts[k]);
        }
    }

    // ---- the row, counts, the image

    private static void rowsFromNoneToTen() {
        Due.sentence("row: A LEAN more of the ROW (0 .. 2): how many; judge: (whichever it answers, the ROW has none then)");
        DraughtsByCandle x = Due.housed("n1;h0p990,0;h0p900,0;");
        int[] leans = {x.lean(0), x.lean(1)};
        for (int length = 0; length <= 10; length++) {
            for (int i = 0; i < length; i++) {
                Due.is("row", x.row(i < 2 ? leans[i] : 2), i + 1);
                Due.is("count(5)", x.count(5), i + 1);
            }
            Due.is("judge() of " + length, x.judge(), length == 2 ? -9 : Math.min(length, 2));
            Due.is("count(5)", x.count(5), 0);
            Due.is("judge() of none", x.judge(), 0);
        }
        Due.is("row(0)", x.row((leans[0] + 1) % 3), 1);
        Due.is("judge() of what is not so", x.judge(), 0);
        Due.is("count(5)", x.count(5), 0);
    }

    private static void countsOfAll() {
        Due.sentence("count: 0 ROOMS, 1 HOLES and DOORS, 2 DOORS, 3 WEATHERS, 4 all SIZES, 5 in the ROW, 6 letters. -9 for another what");
        DraughtsByCandle x = full();
        int[] most = {6, 10, 4, 4, 27, 10, 80};
        for (int what = 0; what <= 6; what++) Due.is("count(" + what + ")", x.count(what), most[what]);
        x = new DraughtsByCandle();
        int[] none = {2, 0, 0, 0, 0, 0, 0};
        for (int what = 0; what <= 6; what++) Due.is("count(" + what + ")", x.count(what), none[what]);
        for (int what = 11; what <= 16; what++) Due.is("count(" + what + ")", x.count(what), 0);
        int[] others = {-1, 7, 8, 9, 10, 17, 18, -9, -11, LEAST, GREATEST};
        for (int what : others) Due.is("count(" + what + ")", x.count(what), -9);
        x = new DraughtsByCandle();
        for (int i = 0; i < 10; i++) Due.tell(x, "h0p900,0;");
        Due.is("ten of 9", x.count(4), 90);
        Due.is("no doors", x.count(2), 0);
        for (int i = 0; i < 10; i++) x.size(i, 0);
        Due.is("ten of 0", x.count(4), 0);
    }

    private static void imageOfAllThatIsTold() {
        Due.sentence("THE IMAGE: all that is told, NOW; ON from it all is as then");
        List<Call> changes = List.of(x -> x.set(0, 0), x -> x.set(1, 20), x -> x.set(2, 1), x -> x.fan(50),
                x -> x.size(0, 9), x -> x.size(2, 0), x -> x.row(0), x -> x.judge(), x -> x.letter(';'), x -> x.house(),
                x -> Due.tell(x, ";"), x -> Due.tell(x, ";n6;"), x -> Due.tell(x, ";d012;"), x -> Due.tell(x, ";h1p111,1;"),
                x -> Due.tell(x, ";w1,1,1;"), x -> x.house() + Due.tell(x, "d305;".repeat(7)));
        for (int i = 0; i < changes.size(); i++) {
            DraughtsByCandle x = some();
            DraughtsByCandle quiet = some();
            Due.is("image()", x.image(), 3);
            quiet.image();
            changes.get(i).to(x);
            Due.is("on() behind change " + i, x.on(), 3);
            Due.is("all is as then behind change " + i, seenToTheEnd(x).equals(seenToTheEnd(quiet)) ? 1 : 0, 1);
        }
        DraughtsByCandle x = full();
        x.image();
        for (int i = 0; i < 10; i++) x.size(i, 0);
        Due.tell(x, "");
        Due.is("on() of the full", x.on(), 10);
        Due.is("sizes", x.count(4), 27);
        Due.is("letters", x.count(6), 80);
        Due.is("row", x.count(5), 10);
        Due.is("weathers", x.count(3), 4);
        Due.sentence("THE IMAGE: all that is told (letters and the ROW, too)");
        x = new DraughtsByCandle();
        Due.letters(x, "n5;");
        x.row(2);
        x.row(1);
        x.image();
        for (int time = 0; time < 2; time++) {
            Due.is("house()", x.house(), 1);
            Due.is("rooms", x.count(0), 5);
            Due.letters(x, "d01;n3;");
            Due.is("judge()", x.judge(), 0);
            x.row(0);
            Due.is("on()", x.on(), 0);
            Due.is("letters", x.count(6), 3);
            Due.is("in the row", x.count(5), 2);
        }
        Due.tell(x, "h0p990,0;h0p900,0;");
        Due.is("rooms", x.count(0), 5);
        Due.is("the first flows out", x.lean(0), 2);
        Due.is("the second flows in", x.lean(1), 1);
        Due.is("the row of then", x.judge(), -9);
        Due.sentence("REFUSALS: nothing changes but how many there were (an image neither takes nor brings them)");
        x = some();
        x.lean(9);
        x.image();
        x.lean(9);
        x.on();
        Due.is("count(11)", x.count(11), 2);
    }

    private static void imageOfNothingTold() {
        Due.sentence("image: how many HOLES and DOORS; on: how many HOLES and DOORS (none)");
        DraughtsByCandle x = new DraughtsByCandle();
        Due.is("image()", x.image(), 0);
        Due.tell(x, "n6;d054;h5p111,1;w1,1,1;");
        x.set(0, 40);
        x.fan(-50);
        x.row(1);
        x.letter('n');
        Due.is("on()", x.on(), 0);
        Due.is("all is as of a new object", seen(x).equals(seen(new DraughtsByCandle())) ? 1 : 0, 1);
        Due.is("hole(0, 0)", x.hole(0, 0), -1);
        Due.is("weather(0, 0)", x.weather(0, 0), -1);
        Due.is("a house of one room", Due.tell(x, "n1;"), 1);
    }

    private static void imageTakenAgain() {
        Due.sentence("THE IMAGE is taken (again)");
        DraughtsByCandle x = new DraughtsByCandle();
        Due.is("image()", x.image(), 0);
        Due.tell(x, "d015;");
        Due.is("image()", x.image(), 1);
        Due.tell(x, "d012;");
        Due.is("on()", x.on(), 1);
        Due.is("on() once more", x.on(), 1);
        Due.tell(x, "d013;d014;");
        Due.is("on() from the same", x.on(), 1);
        Due.is("sizes", x.count(4), 5);
        x.size(0, 7);
        Due.is("image() behind on()", x.image(), 1);
        x.size(0, 1);
        Due.is("on()", x.on(), 1);
        Due.is("sizes", x.count(4), 7);
        for (int many = 2; many <= 10; many++) {
            Due.tell(x, "h1p111,1;");
            Due.is("image() of " + many, x.image(), many);
            x.size(many - 1, 9);
            Due.is("on() of " + many, x.on(), many);
            Due.is("size", x.hole(many - 1, 3), 1);
        }
    }

    private static void imageIsNoneAtFirst() {
        Due.sentence("on: -3 there is none");
        DraughtsByCandle x = new DraughtsByCandle();
        Due.is("on()", x.on(), -3);
        Due.is("on() again", x.on(), -3);
        Due.is("count(13)", x.count(13), 2);
        Due.is("image()", x.image(), 0);
        Due.is("on()", x.on(), 0);
        Due.is("count(13)", x.count(13), 2);
    }

    /** The dearest call, asked as often as there are calls left. */
    private static void lastOf512Calls() {
        Due.sentence("An object is used for at most 512 calls after it has been made");
        String first = "n6;h0p110,1;h1p250,1;h2p330,1;h3p450,1;h4p500,1;h5p650,1;";
        DraughtsByCandle x = new DraughtsByCandle();
        Due.letters(x, first);
        Due.is("house()", x.house(), 7);
        Due.letters(x, "h0s170,1;h2s280,1;h3p390,1;h5l990,1;");
        Due.is("house()", x.house(), 4);
        int calls = first.length() + 1 + 36 + 1;
        int best = x.best(99, 1);
        int holes = x.best(99, 0);
        for (calls += 2; calls < 511; calls++) Due.is("best(99, 1), call " + calls, x.best(99, 1), best);
        Due.is("the last", x.best(99, 0), holes);
    }
}
