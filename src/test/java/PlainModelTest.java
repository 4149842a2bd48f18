import java.util.Random;

/** Long runs of calls (seeds are told, so that each run is the same again) against PlainModel. */
public final class PlainModelTest {
    private static final int RUNS = 400;
    private static final int CALLS = 512;
    private static int wrong = 0;

    private final Random random;
    private final DraughtsByCandle x = new DraughtsByCandle();
    private final PlainModel y = new PlainModel();
    private final StringBuilder pending = new StringBuilder();

    private PlainModelTest(long seed) {
        random = new Random(seed);
    }

    public static void main(String[] args) {
        for (int run = 0; run < RUNS; run++) {
            PlainModelTest test = new PlainModelTest(run);
            for (int call = 0; call < CALLS; call++) {
                String told = test.step(call);
                if (told != null) {
                    wrong++;
                    System.out.println("seed " + run + ", call " + call + ": " + told);
                    break;
                }
            }
        }
        System.out.println(wrong == 0 ? "as the plain model in " + RUNS + " runs" : wrong + " runs are wrong");
        if (wrong != 0) System.exit(1);
    }

    private int upTo(int most) {
        return random.nextInt(most + 1);
    }

    /** Mostly within the bounds, sometimes just beside them, now and then far off. */
    private int near(int least, int most) {
        int r = random.nextInt(40);
        if (r == 0) return least - 1;
        if (r == 1) return most + 1;
        if (r == 2) return random.nextBoolean() ? Integer.MIN_VALUE : Integer.MAX_VALUE;
        return least + random.nextInt(most - least + 1);
    }

    private int anOpening() {
        return near(0, Math.max(0, y.count(1) - 1));
    }

    private static String twoDigits(Random random, int v) {
        return v < 10 && random.nextBoolean() ? "0" + v : "" + v;
    }

    private String statement() {
        int rooms = Math.max(1, y.count(0));
        boolean bad = random.nextInt(60) == 0;
        switch (random.nextInt(9)) {
            case 0:
                return "n" + (bad ? random.nextInt(10) : 2 + random.nextInt(5)) + ";";
            case 1:
            case 2:
                return "d" + upTo(bad ? 9 : rooms - 1) + upTo(bad ? 9 : rooms - 1) + upTo(9) + ";";
            case 3:
                return "w" + twoDigits(random, upTo(bad ? 99 : 40)) + "," + twoDigits(random, upTo(bad ? 99 : 20)) + ","
                        + upTo(bad ? 9 : 3) + ";";
            default:
                return "h" + upTo(bad ? 9 : rooms - 1) + "pltwcfs".charAt(random.nextInt(7)) + upTo(9) + upTo(9)
                        + upTo(bad ? 9 : 3) + "," + twoDigits(random, upTo(bad ? 99 : 20)) + ";";
        }
    }

    private void refillLetters() {
        int statements = 1 + random.nextInt(7);
        for (int i = 0; i < statements; i++) pending.append(statement());
        if (random.nextInt(12) == 0) pending.setLength(random.nextInt(pending.length()));
        if (random.nextInt(12) == 0 && pending.length() > 0) {
            pending.setCharAt(random.nextInt(pending.length()), "nhdw;,0129ps\u00ff".charAt(random.nextInt(13)));
        }
    }

    /** A first house is told at once; then calls of all kinds, and letters by and by. */
    private String step(int call) {
        if (call == 0) refillLetters();
        boolean telling = call < 75 || random.nextInt(3) == 0;
        if (telling && pending.length() > 0) {
            int c = pending.charAt(0);
            pending.deleteCharAt(0);
            return compare("letter(" + c + ")", x.letter(c), y.letter(c));
        }
        if (telling) {
            refillLetters();
            return compare("house()", x.house(), y.house());
        }
        int which = random.nextInt(100);
        return which < 30 ? change() : which < 34 ? dear() : which < 60 ? ask() : wonder();
    }

    private String change() {
        switch (random.nextInt(12)) {
            case 0: { int v = near(0, 255); return random.nextInt(8) != 0 ? null : compare("letter(" + v + ")", x.letter(v), y.letter(v)); }
            case 1: case 2: case 3: { int what = near(0, 2), v = near(0, what == 0 ? 40 : what == 1 ? 20 : 3);
                return compare("set(" + what + ", " + v + ")", x.set(what, v), y.set(what, v)); }
            case 4: { int v = near(-50, 50); return compare("fan(" + v + ")", x.fan(v), y.fan(v)); }
            case 5: case 6: { int h = anOpening(), v = near(0, 9);
                return compare("size(" + h + ", " + v + ")", x.size(h, v), y.size(h, v)); }
            case 7: case 8: { int n = y.count(5);
                int v = n < y.count(1) && random.nextInt(4) != 0 ? y.lean(n) : near(0, 2);
                return compare("row(" + v + ")", x.row(v), y.row(v)); }
            case 9: return random.nextInt(4) != 0 ? null : compare("judge()", x.judge(), y.judge());
            case 10: return random.nextInt(3) != 0 ? null : compare("image()", x.image(), y.image());
            default: return random.nextInt(3) != 0 ? null : compare("on()", x.on(), y.on());
        }
    }

    private String ask() {
        switch (random.nextInt(8)) {
            case 0: { int h = anOpening(), w = near(0, 6); return compare("hole(" + h + ", " + w + ")", x.hole(h, w), y.hole(h, w)); }
            case 1: { int i = near(0, 3), w = near(0, 2); return compare("weather(" + i + ", " + w + ")", x.weather(i, w), y.weather(i, w)); }
            case 2: { int w = near(0, 3); return compare("now(" + w + ")", x.now(w), y.now(w)); }
            case 3: { int h = anOpening(); return compare("outside(" + h + ")", x.outside(h), y.outside(h)); }
            case 4: { int r = near(0, 5); return compare("push(" + r + ")", x.push(r), y.push(r)); }
            case 5: { int h = anOpening(); return compare("flow(" + h + ")", x.flow(h), y.flow(h)); }
            case 6: { int h = anOpening(); return compare("lean(" + h + ")", x.lean(h), y.lean(h)); }
            default: { int w = near(0, 16); return compare("count(" + w + ")", x.count(w), y.count(w)); }
        }
    }

    private String wonder() {
        switch (random.nextInt(13)) {
            case 0: return compare("coal()", x.coal(), y.coal());
            case 1: return compare("smokes()", x.smokes(), y.smokes());
            case 2: { int b = near(0, (1 << y.count(1)) - 1); return compare("stopped(" + b + ")", x.stopped(b), y.stopped(b)); }
            case 3: { int d = anOpening(), h = anOpening(); return compare("shut(" + d + ", " + h + ")", x.shut(d, h), y.shut(d, h)); }
            case 4: return compare("chair()", x.chair(), y.chair());
            case 5: return compare("finger()", x.finger(), y.finger());
            case 6: { int f = near(-50, 50); return compare("number(" + f + ")", x.number(f), y.number(f)); }
            case 7: return compare("winter()", x.winter(), y.winter());
            case 8: return compare("turnsAbout()", x.turnsAbout(), y.turnsAbout());
            case 9: case 10: { int h = anOpening(), f = y.flow(h) / (1 + random.nextInt(3)), w = near(0, 2);
                x.flow(h);
                return compare("sizes(" + h + ", " + f + ", " + w + ")", x.sizes(h, f, w), y.sizes(h, f, w)); }
            case 11: { int s = near(0, 9), c = random.nextInt(8) == 0 ? near(0, 400) : y.coal();
                return compare("hidden(" + s + ", " + c + ")", x.hidden(s, c), y.hidden(s, c)); }
            default: { int n = near(1, 30), z = random.nextInt();
                return compare("days(" + n + ", " + z + ")", x.days(n, z), y.days(n, z)); }
        }
    }

    private String dear() {
        int w = near(0, 1);
        if (random.nextInt(3) != 0) return compare("pairs(" + w + ")", x.pairs(w), y.pairs(w));
        int coin = near(0, 99);
        return compare("best(" + coin + ", " + w + ")", x.best(coin, w), y.best(coin, w));
    }

    private static String compare(String call, int got, int want) {
        return got == want ? null : call + " answered " + got + ", the plain model says " + want;
    }
}
