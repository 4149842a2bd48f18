import java.util.Random;

/** Any arguments in any state: no call throws, and none but those that change anything changes an answer. */
public final class NeverThrowsTest {
    private static final int[] FAR_OFF = {Integer.MIN_VALUE, Integer.MIN_VALUE + 1, -1000, -51, -10, -9, -1, 0, 1, 5, 6, 9, 10,
        11, 16, 31, 32, 41, 51, 80, 100, 255, 256, 1023, 1024, 1000000000, Integer.MAX_VALUE - 1, Integer.MAX_VALUE};
    private static final String[] HOUSES = {"n1;", "n6;d059;d549;d439;d329;d219;d109;h0l901,1;h5s990,2;h3w902,3;h2f951,4;",
        "h0p950,0;h1t900,9;d015;h1c900,3;w40,20,0;w0,20,2;w40,0,3;w0,0,1;", "n3;n2"};

    public static void main(String[] args) {
        Random random = new Random(7);
        for (int run = 0; run < 60; run++) {
            DraughtsByCandle x = new DraughtsByCandle();
            String house = HOUSES[run % HOUSES.length];
            for (int i = 0; i < house.length(); i++) x.letter(house.charAt(i));
            x.house();
            for (int call = 0; call < 1500; call++) anyCall(x, random, call % 31);
        }
        asks();
        System.out.println("no call has thrown");
    }

    private static int any(Random random) {
        return random.nextInt(4) == 0 ? random.nextInt() : FAR_OFF[random.nextInt(FAR_OFF.length)];
    }

    private static int anyCall(DraughtsByCandle x, Random random, int which) {
        int a = any(random), b = any(random), c = any(random);
        switch (which) {
            case 0: return x.letter(a);
            case 1: return x.house();
            case 2: return x.set(a, b);
            case 3: return x.fan(a);
            case 4: return x.size(a, b);
            case 5: return x.row(a);
            case 6: return x.judge();
            case 7: return x.image();
            case 8: return x.on();
            default: return ask(x, which, a, b, c);
        }
    }

    private static int ask(DraughtsByCandle x, int which, int a, int b, int c) {
        switch (which) {
            case 9: return x.hole(a, b);
            case 10: return x.weather(a, b);
            case 11: return x.now(a);
            case 12: return x.outside(a);
            case 13: return x.push(a);
            case 14: return x.flow(a);
            case 15: return x.lean(a);
            case 16: return x.coal();
            case 17: return x.smokes();
            case 18: return x.stopped(a);
            case 19: return x.best(a, b);
            case 20: return x.pairs(a);
            case 21: return x.shut(a, b);
            case 22: return x.chair();
            case 23: return x.finger();
            case 24: return x.number(a);
            case 25: return x.winter();
            case 26: return x.turnsAbout();
            case 27: return x.sizes(a, b, c);
            case 28: return x.hidden(a, b);
            case 29: return x.days(a, b);
            default: return x.count(a);
        }
    }

    /** Two objects alike, of which one is asked a great deal in between: both answer alike still. */
    private static void asks() {
        Random random = new Random(8);
        for (String house : HOUSES) {
            DraughtsByCandle quiet = new DraughtsByCandle(), asked = new DraughtsByCandle();
            for (int i = 0; i < house.length(); i++) {
                quiet.letter(house.charAt(i));
                asked.letter(house.charAt(i));
            }
            quiet.house();
            asked.house();
            for (int round = 0; round < 40; round++) {
                for (int which = 9; which < 31; which++) ask(asked, which, random.nextInt(12), random.nextInt(10), random.nextInt(3));
                for (int which = 9; which < 31; which++) {
                    int a = random.nextInt(4), b = random.nextInt(4), c = random.nextInt(3);
                    int got = ask(asked, which, a, b, c), want = ask(quiet, which, a, b, c);
                    boolean refusals = which == 30 && a > 10;
                    if (got != want && !refusals) {
                        System.out.println("call " + which + "(" + a + ", " + b + ", " + c + ") answered " + got + " and " + want);
                        System.exit(1);
                    }
                }
            }
        }
    }
}
