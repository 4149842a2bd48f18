/** Answers that are due, told with the sentence of the document that asks for them. */
final class Due {
    static final int FAR = 1000000000;
    private static int wrong = 0;
    private static int asked = 0;
    private static String sentence = "";

    /** The words of ../shared/DOC.md that the answers behind this are due by. */
    static void sentence(String words) {
        sentence = words;
    }

    static void is(String call, int got, int want) {
        asked++;
        if (got == want) return;
        wrong++;
        if (wrong <= 100) System.out.println("\"" + sentence + "\": " + call + " answered " + got + ", due is " + want);
    }

    static void end() {
        System.out.println(wrong == 0 ? asked + " answers are as due" : wrong + " of " + asked + " answers are wrong");
        if (wrong != 0) System.exit(1);
    }

    static void letters(DraughtsByCandle x, String text) {
        for (int i = 0; i < text.length(); i++) x.letter(text.charAt(i));
    }

    static int tell(DraughtsByCandle x, String text) {
        letters(x, text);
        return x.house();
    }

    static DraughtsByCandle housed(String text) {
        DraughtsByCandle x = new DraughtsByCandle();
        int statements = tell(x, text);
        is("house() of " + text, statements > 0 ? 1 : statements, 1);
        return x;
    }

    /** The counts of refusals -1 .. -6 as they stand. */
    static int[] refusals(DraughtsByCandle x) {
        int[] counts = new int[6];
        for (int i = 0; i < 6; i++) counts[i] = x.count(11 + i);
        return counts;
    }
}
