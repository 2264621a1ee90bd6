/** Promises 19 to 22: image, restore, count, digest. */
public final class AllTest {
    public static void main(String[] args) {
        imageAndRestore();
        imageOfAnotherCourt();
        fullAfterRestore();
        count();
        digestWithoutCourt();
        digestWithCourt();
        digestChangesNothing();
        Due.end("AllTest");
    }

    private static void imageAndRestore() {
        DryLoaf x = Due.court("p22,p23;5");
        Due.due("restore() of none", x.restore(), DryLoaf.STATE);
        x.eat(0, true);
        x.butter(1, 4);
        x.hear(0, false, true);
        Due.due("image()", x.image(), 1);
        long then = x.digest();
        x.eat(0, false);
        x.eat(1, true);
        x.loaf(9);
        x.butter(0, 1);
        x.butter(1, 0);
        x.hear(0, true, false);
        x.hear(1, true, false);
        Due.due("restore()", x.restore(), 1);
        Due.due("digest()", x.digest(), then);
        Due.due("dry", x.count(1), 5);
        Due.due("ate", x.about(0, 6) * 10 + x.about(1, 6), 10);
        Due.due("choked", x.about(0, 7) * 10 + x.about(1, 7), 10);
        Due.due("butter", x.about(0, 3) * 10 + x.about(1, 3), 4);
        Due.due("heard", x.count(5), 1);
        Due.due("buttered(0)", x.buttered(0), 3);
        Due.due("buttered(1)", x.buttered(1), 1023);
        Due.belief(x, 0, 5, 8);
        x.forget();
        x.eat(1, false);
        Due.due("restore() again", x.restore(), 1);
        Due.due("digest() again", x.digest(), then);
        x.eat(1, false);
        Due.due("the latest image()", x.image(), 2);
        x.eat(1, false);
        Due.due("restore() of the latest", x.restore(), 2);
        x.letter(112);
        x.right(0, 0);
        x.restore();
        Due.due("the page is not in the image", x.count(6), 1);
        Due.due("nor is right()", x.count(8), 1);
    }

    private static void imageOfAnotherCourt() {
        DryLoaf x = new DryLoaf();
        Due.due("image() without a court", x.image(), DryLoaf.STATE);
        Due.write(x, "p22,p23;5");
        x.court();
        x.image();
        Due.due("court() refused", x.court(), DryLoaf.STATE);
        Due.due("no other court since", x.restore(), 0);
        Due.write(x, "p22,p23;5");
        x.court();
        x.eat(0, true);
        Due.due("another court, if of like text", x.restore(), DryLoaf.STATE);
        Due.due("it changed nothing", x.count(2), 1);
        Due.due("image() of that", x.image(), 1);
        Due.due("restore() of that", x.restore(), 1);
    }

    private static void fullAfterRestore() {
        DryLoaf x = Due.court("h21,h21;5");
        x.image();
        for (int i = 0; i < 6; i++) {
            x.eat(0, false);
        }
        Due.due("the seventh", x.eat(0, false), DryLoaf.FULL);
        Due.due("restore()", x.restore(), 0);
        Due.due("he eats again", x.eat(0, false), 0);
    }

    private static void count() {
        DryLoaf x = Due.court("p22,p23,w11;5");
        x.eat(0, true);
        x.eat(1, false);
        x.butter(0, 4);
        x.butter(2, 9);
        x.hear(1, true, true);
        x.right(1, 1);
        x.right(0, 0);
        Due.write(x, "p0100");
        int[] want = {3, 5, 2, 1, 13, 1, 5, 1, 2};
        for (int what = 0; what <= 8; what++) {
            Due.due("count(" + what + ")", x.count(what), want[what]);
        }
        Due.due("count(-1)", x.count(-1), DryLoaf.OUTSIDE);
        Due.due("count(9)", x.count(9), DryLoaf.OUTSIDE);
    }

    private static void digestWithoutCourt() {
        DryLoaf x = new DryLoaf();
        Due.due("digest() of nothing", x.digest(), Due.fold(0, 0, 0, 0, 0, 0, 0, 0, 0));
        Due.write(x, "p~ ");
        Due.due("digest() of letters", x.digest(), Due.fold(112, 126, 32, 0, 0, 0, 0, 0, 0, 3, 0, 0));
    }

    private static void digestWithCourt() {
        DryLoaf x = Due.court("p22,t93;5");
        x.butter(0, 1);
        x.eat(0, true);
        x.hear(0, false, true);
        x.right(1, 0);
        x.letter(59);
        // 8, 3 of 11; whatever 0 eats, he is judged: 80 of 110; 1 at 6 chokes by 1, or 10: 80 and 27 of 110
        Due.due("digest() of a court", x.digest(), Due.fold(
            0, 2, 2, 1, 4, 1, 1, 1, 5, 8, 11, 1, 8, 11, 3,
            4, 9, 3, 0, 0, 9, 0, 0, 9, 3, 11, 6, 107, 110, 1023,
            0,
            59,
            2, 5, 1, 1, 1, 1, 1, 1, 1));
    }

    private static void digestChangesNothing() {
        DryLoaf x = Due.court("p22,t93;5");
        long first = x.digest();
        Due.due("digest() again", x.digest(), first);
        Due.due("count(8)", x.count(8), 0);
    }
}
