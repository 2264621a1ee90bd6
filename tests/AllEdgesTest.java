import java.math.BigInteger;
import java.util.ArrayList;
import java.util.List;

/** Promises 19 to 22 at their edges: each test is for one sentence of the document, which it names. */
public final class AllEdgesTest {
    private static final String COURT = "p42,h23,w31,t94;6";

    public static void main(String[] args) {
        imageWithoutCourt();
        imageTellsHowOftenOneAte();
        imageIsTheLatest();
        imageChangesNothing();
        restoreOfNone();
        restoreOfAnotherCourt();
        restoreBehindARefusedCourt();
        restoreOfDry();
        restoreOfButter();
        restoreOfWeights();
        restoreOfWhoAte();
        restoreOfHeard();
        restoreOfAFullCourt();
        restoreIsTheSameEachTime();
        restoreLeavesTheRest();
        countWithoutCourt();
        countOfAtMost();
        countOfRefused();
        countOutside();
        digestOfNothing();
        digestOfAFullPage();
        digestWraps();
        digestOfEachCourt();
        digestIsNoCallOfRight();
        fiveHundredAndTwelveCalls();
        Due.end("AllEdgesTest");
    }

    private static void imageWithoutCourt() {
        Due.promise(19, "STATE: no COURT");
        DryLoaf x = new DryLoaf();
        Due.refused(x, "image()", DryLoaf.STATE, x::image);
        Due.write(x, COURT);
        Due.refused(x, "image() with a page", DryLoaf.STATE, x::image);
        Due.refused(x, "restore() then", DryLoaf.STATE, x::restore);
        x.court();
        Due.refused(x, "restore() in a court", DryLoaf.STATE, x::restore);
        Due.due("image() in a court", x.image(), 0);
    }

    private static void imageTellsHowOftenOneAte() {
        Due.promise(19, "how often one ATE");
        DryLoaf x = Due.court(COURT);
        for (int i = 0; i <= 6; i++) {
            Due.due("image() behind " + i + " meals", x.image(), i);
            Due.due("restore() behind " + i + " meals", x.restore(), i);
            x.eat(i % 4, i % 2 == 0);
        }
        Due.due("image() behind a meal refused", x.image(), 6);
    }

    private static void imageIsTheLatest() {
        Due.promise(19, "An IMAGE is kept (one; the latest)");
        DryLoaf x = Due.court(COURT);
        x.butter(0, 1);
        x.image();
        x.butter(0, 2);
        x.image();
        x.butter(0, 3);
        x.restore();
        Due.due("the latest", x.about(0, 3), 2);
        x.restore();
        Due.due("the earlier one is gone", x.about(0, 3), 2);
    }

    private static void imageChangesNothing() {
        Due.promise(19, "An IMAGE is kept");
        DryLoaf x = played();
        Due.write(x, "p0");
        long before = x.digest();
        x.image();
        Due.due("digest()", x.digest(), before);
    }

    private static void restoreOfNone() {
        Due.promise(20, "STATE: none was kept");
        DryLoaf x = new DryLoaf();
        Due.refused(x, "restore() without a court", DryLoaf.STATE, x::restore);
        DryLoaf y = played();
        Due.refused(y, "restore() without an image", DryLoaf.STATE, y::restore);
    }

    private static void restoreOfAnotherCourt() {
        Due.promise(20, "STATE: .. or there is another COURT since");
        DryLoaf x = played();
        x.image();
        Due.write(x, COURT);
        x.court();
        x.butter(1, 7);
        Due.refused(x, "restore() in another court of the same text", DryLoaf.STATE, x::restore);
        Due.write(x, COURT);
        x.court();
        Due.refused(x, "restore() in the next one", DryLoaf.STATE, x::restore);
        Due.due("image() of this one", x.image(), 0);
        x.eat(1, true);
        Due.due("restore() of this one", x.restore(), 0);
    }

    private static void restoreBehindARefusedCourt() {
        Due.promise(20, "there is another COURT since");
        DryLoaf x = played();
        Due.due("image()", x.image(), 3);
        x.court();
        Due.write(x, "p01;1");
        x.court();
        Due.due("restore()", x.restore(), 3);
        Due.due("the page stays", x.count(6), 5);
    }

    /** A court where something of all that an image keeps has happened. */
    private static DryLoaf played() {
        DryLoaf x = Due.court(COURT);
        x.butter(0, 1);
        x.butter(3, 9);
        x.eat(0, true);
        x.eat(1, false);
        x.eat(1, true);
        x.hear(0, false, true);
        x.hear(2, true, true);
        x.loaf(7);
        return x;
    }

    private static void restoreOfDry() {
        Due.promise(20, "An IMAGE keeps DRY");
        DryLoaf x = played();
        x.image();
        x.loaf(1);
        x.restore();
        Due.due("count(1)", x.count(1), 7);
        Due.due("loaf(9)", x.loaf(9), 7);
        x.restore();
        Due.due("tenths", x.about(1, 4), 4);
    }

    private static void restoreOfButter() {
        Due.promise(20, "An IMAGE keeps .. BUTTER");
        DryLoaf x = played();
        x.image();
        for (int i = 0; i < 4; i++) {
            x.butter(i, 5);
        }
        x.restore();
        int[] want = {1, 0, 0, 9};
        for (int i = 0; i < 4; i++) {
            Due.due("about(" + i + ", 3)", x.about(i, 3), want[i]);
        }
        Due.due("count(4)", x.count(4), 10);
    }

    private static void restoreOfWeights() {
        Due.promise(20, "An IMAGE keeps .. WEIGHTS");
        // 0 choked by 7 or 4: 2, 3, 1, 4 times 7, 4, 4, 4; the hardened told nothing
        DryLoaf x = played();
        x.image();
        x.eat(0, true);
        x.eat(3, false);
        x.restore();
        Due.belief(x, 0, 7, 23);
        Due.belief(x, 1, 6, 23);
        Due.belief(x, 2, 2, 23);
        Due.belief(x, 3, 8, 23);
        Due.due("judged()", x.judged(), 3);
    }

    private static void restoreOfWhoAte() {
        Due.promise(20, "An IMAGE keeps .. who ATE how often");
        DryLoaf x = played();
        x.image();
        x.eat(0, true);
        x.eat(2, false);
        x.eat(3, false);
        Due.due("restore()", x.restore(), 3);
        int[] ate = {1, 2, 0, 0};
        int[] choked = {1, 1, 0, 0};
        for (int i = 0; i < 4; i++) {
            Due.due("about(" + i + ", 6)", x.about(i, 6), ate[i]);
            Due.due("about(" + i + ", 7)", x.about(i, 7), choked[i]);
        }
        Due.due("count(2)", x.count(2), 3);
        Due.due("count(3)", x.count(3), 2);
    }

    private static void restoreOfHeard() {
        Due.promise(20, "An IMAGE keeps .. HEARD");
        // on 6 he choked by 4 + 6 - 5, so with 0 to 4; on 6 the weeper by 3 + 3 + 6 - 5, so with 0 to 6
        DryLoaf x = played();
        x.image();
        x.forget();
        x.restore();
        Due.due("count(5)", x.count(5), 2);
        Due.due("buttered(0)", x.buttered(0), 31);
        Due.due("buttered(1)", x.buttered(1), 1023);
        Due.due("buttered(2)", x.buttered(2), 127);
        x.loaf(1);
        x.hear(0, true, true);
        x.hear(1, true, true);
        x.restore();
        Due.due("buttered(0) again", x.buttered(0), 31);
        Due.due("buttered(1) again", x.buttered(1), 1023);
        Due.due("what is heard next", x.hear(1, true, false), 3);
    }

    private static void restoreOfAFullCourt() {
        Due.promise(20, "It goes on from the IMAGE");
        DryLoaf x = Due.court("h51,h51;5");
        x.image();
        for (int i = 0; i < 6; i++) {
            x.eat(0, true);
            x.hear(0, true, true);
        }
        x.restore();
        Due.due("from an empty one: eat()", x.eat(0, true), 0);
        Due.due("from an empty one: hear()", x.hear(0, true, true), 1);
        for (int i = 0; i < 5; i++) {
            x.eat(0, true);
            x.hear(0, true, true);
        }
        Due.due("image() of a full one", x.image(), 6);
        x.forget();
        Due.due("restore() of a full one", x.restore(), 6);
        Due.refused(x, "from a full one: eat()", DryLoaf.FULL, () -> x.eat(0, true));
        Due.refused(x, "from a full one: hear()", DryLoaf.FULL, () -> x.hear(0, true, true));
    }

    private static void restoreIsTheSameEachTime() {
        Due.promise(20, "It goes on from the IMAGE");
        DryLoaf x = played();
        x.image();
        long then = x.digest();
        Due.due("restore() at once", x.restore(), 3);
        Due.due("digest() at once", x.digest(), then);
        for (int i = 0; i < 3; i++) {
            x.eat(i, true);
            x.butter(i, 8);
            x.hear(i, true, i == 0);
            x.loaf(i + 1);
            Due.due("restore() " + i, x.restore(), 3);
            Due.due("digest() " + i, x.digest(), then);
        }
    }

    private static void restoreLeavesTheRest() {
        Due.promise(20, "An IMAGE keeps DRY, BUTTER, WEIGHTS, who ATE how often, HEARD");
        DryLoaf x = played();
        x.image();
        Due.write(x, "p01,");
        x.right(0, 0);
        x.right(1, 0);
        x.restore();
        Due.due("the page", x.count(6), 4);
        Due.due("its letters", x.fault(), 4);
        Due.due("how often right() was done", x.count(8), 2);
        Due.due("how often a court was read", x.count(7), 1);
    }

    private static void countWithoutCourt() {
        Due.promise(21, "1 DRY (0: no COURT)");
        DryLoaf x = new DryLoaf();
        for (int what = 0; what <= 8; what++) {
            Due.due("count(" + what + ")", x.count(what), 0);
        }
        Due.write(x, "p01,h01;9");
        Due.due("count(1) with a page", x.count(1), 0);
        x.court();
        Due.due("count(1) with a court", x.count(1), 9);
    }

    private static void countOfAtMost() {
        Due.promise(21, "How many");
        DryLoaf x = Due.court("h51,h51,h51,h51;9");
        for (int i = 0; i < 4; i++) {
            x.butter(i, 9);
        }
        x.loaf(9);
        x.butter(0, 0);
        for (int i = 0; i < 7; i++) {
            x.eat(0, true);
            x.hear(3, true, true);
        }
        x.butter(0, 9);
        for (int i = 0; i < 21; i++) {
            x.right(0, 0);
        }
        Due.write(x, "~~~~~~~~~~~~~~~~~~~");
        int[] want = {4, 9, 6, 6, 36, 6, 18, 1, 20};
        for (int what = 0; what <= 8; what++) {
            Due.due("count(" + what + ")", x.count(what), want[what]);
        }
    }

    private static void countOfRefused() {
        Due.promise(21, "7 how often a COURT was read, 8 how often right() was done");
        DryLoaf x = new DryLoaf();
        for (int i = 1; i <= 5; i++) {
            x.court();
            x.right(0, 0);
            Due.write(x, "p01,h01;1");
            x.court();
            x.right(0, 0);
            x.right(0, 9);
            Due.due("count(7)", x.count(7), i);
            Due.due("count(8)", x.count(8), 2 * i - 1);
        }
    }

    private static void countOutside() {
        Due.promise(21, "OUTSIDE");
        DryLoaf x = played();
        for (int what : Due.outsideOf(0, 8)) {
            Due.refused(x, "count(" + what + ")", DryLoaf.OUTSIDE, () -> x.count(what));
        }
        Due.due("without a court", new DryLoaf().count(9), DryLoaf.OUTSIDE);
    }

    private static void digestOfNothing() {
        Due.promise(22, "h is 919, then for each of these numbers, in order, 31 times h, and it");
        Due.due("digest() of a new object", new DryLoaf().digest(), inFull(0, 0, 0, 0, 0, 0, 0, 0, 0));
    }

    private static void digestOfAFullPage() {
        Due.promise(22, "letters of THE PAGE");
        DryLoaf x = Due.page("~~~~~~~~~~~~~~~~ p");
        List<Long> numbers = new ArrayList<>();
        for (int i = 0; i < 16; i++) {
            numbers.add(126L);
        }
        for (long number : new long[] {32, 112, 0, 0, 0, 0, 0, 0, 18, 0, 0}) {
            numbers.add(number);
        }
        Due.due("digest() of 18 letters", x.digest(), inFull(numbers.stream().mapToLong(Long::longValue).toArray()));
        x.blank();
        Due.due("digest() of an empty page", x.digest(), new DryLoaf().digest());
    }

    /** The digest with numbers that do not end at 64 bits, cut to them at last. */
    private static long inFull(long... numbers) {
        BigInteger h = BigInteger.valueOf(919);
        for (long number : numbers) {
            h = h.multiply(BigInteger.valueOf(31)).add(BigInteger.valueOf(number));
        }
        return h.longValue();
    }

    private static void digestWraps() {
        Due.promise(22, "(as longs, wrapping)");
        // w: 3 and 3; h: none; like ones tell nothing
        DryLoaf x = Due.court("w01,h01;5");
        Due.due("digest()", x.digest(), inFull(
            2, 0, 1, 0, 3, 3, 0, 0, 3, 1, 2, 1, 1, 2, 1023,
            1, 0, 1, 0, 0, 0, 0, 0, 0, 1, 2, 1, 1, 2, 1023,
            0,
            2, 5, 0, 0, 0, 0, 0, 1, 0));
        // a need of none is -1; 0 eats best at 2, by 3 or none: of 1 and 9 that is 3 and 90
        DryLoaf y = Due.court("p31,h99;9");
        y.eat(1, true);
        Due.due("digest() with NONE", y.digest(), inFull(
            0, 3, 1, 0, 10, 7, 0, 0, -1, 1, 10, 2, 93, 100, 1023,
            1, 9, 9, 0, 10, 10, 1, 1, -1, 9, 10, 1, 9, 10, 1023,
            1,
            2, 9, 1, 1, 0, 0, 0, 1, 0));
    }

    private static void digestOfEachCourt() {
        Due.promise(22, "of each ACCUSED what about() tells for 0 to 8, what belief() tells .. letters of THE PAGE");
        for (String court : new String[] {"p42,h23;6", "p42,h23,w31;6", COURT}) {
            DryLoaf x = Due.court(court);
            x.eat(0, true);
            x.hear(1, false, true);
            x.butter(0, 2);
            x.right(1, 0);
            Due.write(x, "z");
            Due.due("digest() of " + court, x.digest(), told(x));
        }
    }

    /** The digest as the other calls tell its numbers. */
    private static long told(DryLoaf x) {
        List<Long> numbers = new ArrayList<>();
        for (int i = 0; i < x.count(0); i++) {
            for (int what = 0; what <= 8; what++) {
                numbers.add((long) x.about(i, what));
            }
            numbers.add(x.belief(i, 0));
            numbers.add(x.belief(i, 1));
            for (int what = 0; what <= 2; what++) {
                numbers.add(x.driest(i, what));
            }
            numbers.add((long) x.buttered(i));
        }
        numbers.add((long) x.judged());
        numbers.add((long) 'z');
        for (int what = 0; what <= 8; what++) {
            numbers.add((long) x.count(what));
        }
        return inFull(numbers.stream().mapToLong(Long::longValue).toArray());
    }

    private static void digestIsNoCallOfRight() {
        Due.promise(22, "digest()");
        DryLoaf x = played();
        for (int i = 0; i < 19; i++) {
            x.right(0, 0);
        }
        long before = x.digest();
        for (int i = 0; i < 30; i++) {
            Due.due("digest() again", x.digest(), before);
        }
        Due.due("count(8)", x.count(8), 19);
        Due.due("the 20th right()", x.right(0, 2), DryLoaf.NONE);
    }

    private static void fiveHundredAndTwelveCalls() {
        Due.promise(1, "An object is used for at most 512 calls after it has been made");
        DryLoaf x = new DryLoaf();
        int calls = 0;
        while (calls + 10 <= 500) {
            Due.write(x, "p42,h23;6");
            Due.due("court() as call " + (calls + 10), x.court(), 2);
            calls += 10;
        }
        Due.due("count(7) as call " + ++calls, x.count(7), 50);
        while (calls < 507) {
            Due.due("eat() as call " + ++calls, x.eat(1, true), 1);
        }
        Due.due("eat() as call " + ++calls, x.eat(1, true), DryLoaf.FULL);
        Due.due("image() as call " + ++calls, x.image(), 6);
        Due.due("restore() as call " + ++calls, x.restore(), 6);
        Due.due("right() as call " + ++calls, x.right(0, 1), 5);
        Due.due("digest() as call " + ++calls, x.digest(), inFull(
            0, 4, 2, 0, 8, 5, 0, 0, 8, 2, 5, 1, 18, 25, 1023,
            1, 2, 3, 0, 3, 3, 6, 6, 3, 3, 5, 1, 3, 5, 1023,
            1,
            2, 6, 6, 6, 0, 0, 0, 50, 1));
        Due.due("calls", calls, 512);
    }
}
