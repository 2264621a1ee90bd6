import java.util.function.LongSupplier;

/** What the tests share: telling wrong answers, and making courts. */
final class Due {
    private static int wrong = 0;
    private static int asked = 0;
    private static String heading = "";

    private Due() {
    }

    /** What is asked from here on is asked for this sentence of the document; a wrong answer is told with it. */
    static void promise(int number, String sentence) {
        heading = "promise " + number + ", \"" + sentence + "\": ";
    }

    static void due(String call, long got, long want) {
        asked++;
        if (got != want) {
            wrong++;
            System.out.println(heading + call + " answered " + got + ", due is " + want);
        }
    }

    /** A refusal: it is the one that is due, and changes nothing that digest() tells of. */
    static void refused(DryLoaf x, String call, long want, LongSupplier made) {
        long before = x.digest();
        due(call, made.getAsLong(), want);
        due(call + " was refused, and digest() then", x.digest(), before);
    }

    /** Numbers that name none of so many accused. */
    static int[] nobodyOf(int many) {
        return new int[] {Integer.MIN_VALUE, -65536, -2, -1, many, many + 1, 4, 256, 65536, Integer.MAX_VALUE};
    }

    /** Numbers that lie just and far outside of these bounds. */
    static int[] outsideOf(int least, int most) {
        return new int[] {Integer.MIN_VALUE, least - 65536, least - 1, most + 1, least + 256, most + 65536,
            Integer.MAX_VALUE};
    }

    /** Ends the test: with exit code 1 if an answer was wrong, or if none was asked for. */
    static void end(String test) {
        System.out.println(test + ": " + asked + " answers, " + wrong + " wrong");
        if (wrong != 0 || asked == 0) {
            System.exit(1);
        }
    }

    static void write(DryLoaf x, String text) {
        for (int i = 0; i < text.length(); i++) {
            x.letter(text.charAt(i));
        }
    }

    static DryLoaf page(String text) {
        DryLoaf x = new DryLoaf();
        write(x, text);
        return x;
    }

    static DryLoaf court(String text) {
        DryLoaf x = page(text);
        x.court();
        return x;
    }

    static void belief(DryLoaf x, int accused, long above, long below) {
        due("belief(" + accused + ", 0)", x.belief(accused, 0), above);
        due("belief(" + accused + ", 1)", x.belief(accused, 1), below);
    }

    static void right(DryLoaf x, int loaves, long above, long below, long first) {
        due("right(" + loaves + ", 0)", x.right(loaves, 0), above);
        due("right(" + loaves + ", 1)", x.right(loaves, 1), below);
        due("right(" + loaves + ", 2)", x.right(loaves, 2), first);
    }

    static void driest(DryLoaf x, int accused, long dry, long above, long below) {
        due("driest(" + accused + ", 0)", x.driest(accused, 0), dry);
        due("driest(" + accused + ", 1)", x.driest(accused, 1), above);
        due("driest(" + accused + ", 2)", x.driest(accused, 2), below);
    }

    /** digest() over these numbers. */
    static long fold(long... numbers) {
        long h = 919;
        for (long number : numbers) {
            h = 31 * h + number;
        }
        return h;
    }
}
