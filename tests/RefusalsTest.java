/**
 * "Refusals, of several the first as told by each call .. they change nothing": every call that refuses is refused
 * in a court where much has happened, and then all goes on as if it had not been called.
 */
public final class RefusalsTest {
    private static final int FAR = Integer.MAX_VALUE;
    private static final int LEAST = Integer.MIN_VALUE;

    public static void main(String[] args) {
        inACourt();
        whenAllIsFull();
        withoutCourt();
        imageBehindRefusals();
        Due.end("RefusalsTest");
    }

    private static DryLoaf court() {
        DryLoaf x = Due.court("p41,h21,w33;5");
        x.butter(0, 2);
        x.eat(0, true);
        x.hear(1, true, true);
        x.right(1, 0);
        return x;
    }

    private static void inACourt() {
        DryLoaf x = court();
        Due.write(x, "p01");
        refuseByNumbers(x, DryLoaf.OUTSIDE);
        Due.promise(5, "STATE: it is none");
        Due.refused(x, "court()", DryLoaf.STATE, x::court);
        Due.promise(10, "STATE: it cannot be");
        x.butter(1, 9);
        Due.refused(x, "eat(1, true)", DryLoaf.STATE, () -> x.eat(1, true));
        Due.promise(20, "STATE: none was kept");
        Due.refused(x, "restore()", DryLoaf.STATE, x::restore);
    }

    private static void whenAllIsFull() {
        DryLoaf x = court();
        Due.write(x, "p01,h01;1p01,h01;1");
        x.butter(1, 9);
        for (int i = 0; i < 20; i++) {
            x.eat(0, true);
            x.hear(0, true, true);
            x.right(0, 0);
        }
        refuseByNumbers(x, DryLoaf.OUTSIDE);
        Due.promise(2, "FULL: above 18");
        Due.refused(x, "letter('p')", DryLoaf.FULL, () -> x.letter('p'));
        Due.promise(10, "STATE: it cannot be; FULL: 6 times");
        Due.refused(x, "eat(0, true)", DryLoaf.FULL, () -> x.eat(0, true));
        Due.refused(x, "eat(1, true)", DryLoaf.STATE, () -> x.eat(1, true));
        Due.promise(13, "STATE: .. right() was done 20 times");
        Due.refused(x, "right(3, 2)", DryLoaf.STATE, () -> x.right(3, 2));
        Due.promise(15, "FULL");
        Due.refused(x, "hear(2, true, true)", DryLoaf.FULL, () -> x.hear(2, true, true));
    }

    private static void withoutCourt() {
        DryLoaf x = Due.page("p01");
        refuseByNumbers(x, DryLoaf.UNKNOWN);
        Due.promise(9, "STATE: no COURT");
        Due.refused(x, "loaf(5)", DryLoaf.STATE, () -> x.loaf(5));
        Due.promise(12, "STATE: no COURT");
        Due.refused(x, "judged()", DryLoaf.STATE, x::judged);
        Due.promise(13, "STATE: no COURT");
        Due.refused(x, "right(3, 2)", DryLoaf.STATE, () -> x.right(3, 2));
        Due.promise(19, "STATE: no COURT");
        Due.refused(x, "image()", DryLoaf.STATE, x::image);
        Due.promise(20, "STATE: none was kept");
        Due.refused(x, "restore()", DryLoaf.STATE, x::restore);
    }

    /** All that is refused by its numbers alone; of accused 0 it is this refusal. */
    private static void refuseByNumbers(DryLoaf x, int of0) {
        Due.promise(2, "OUTSIDE");
        Due.refused(x, "letter(127)", DryLoaf.OUTSIDE, () -> x.letter(127));
        for (int nobody : new int[] {-1, 3, FAR, LEAST}) {
            refuseNobody(x, nobody);
        }
        for (int v : new int[] {-1, 10, FAR, LEAST}) {
            Due.promise(6, "UNKNOWN; OUTSIDE");
            Due.refused(x, "about(0, " + v + ")", of0, () -> x.about(0, v));
            Due.promise(7, "UNKNOWN; OUTSIDE");
            Due.refused(x, "as(0, " + v + ")", of0, () -> x.as(0, v));
            Due.promise(8, "UNKNOWN; OUTSIDE");
            Due.refused(x, "butter(0, " + v + ")", of0, () -> x.butter(0, v));
            Due.promise(9, "OUTSIDE");
            Due.refused(x, "loaf(" + v + ")", DryLoaf.OUTSIDE, () -> x.loaf(v));
            Due.promise(11, "UNKNOWN; OUTSIDE");
            Due.refused(x, "belief(0, " + v + ")", of0, () -> x.belief(0, v));
            Due.promise(13, "OUTSIDE");
            Due.refused(x, "right(" + v + ", 0)", DryLoaf.OUTSIDE, () -> x.right(v, 0));
            Due.refused(x, "right(0, " + v + ")", DryLoaf.OUTSIDE, () -> x.right(0, v));
            Due.promise(14, "UNKNOWN; OUTSIDE");
            Due.refused(x, "driest(0, " + v + ")", of0, () -> x.driest(0, v));
            Due.promise(18, "UNKNOWN; OUTSIDE");
            Due.refused(x, "sessions(0, 1, 0, " + v + ")", of0, () -> x.sessions(0, 1, 0, v));
            Due.promise(21, "OUTSIDE");
            Due.refused(x, "count(" + v + ")", DryLoaf.OUTSIDE, () -> x.count(v));
        }
    }

    /** Nobody is UNKNOWN, whatever else is wrong. */
    private static void refuseNobody(DryLoaf x, int nobody) {
        Due.promise(6, "UNKNOWN");
        Due.refused(x, "about(" + nobody + ", 3)", DryLoaf.UNKNOWN, () -> x.about(nobody, 3));
        Due.promise(7, "UNKNOWN");
        Due.refused(x, "as(" + nobody + ", 0)", DryLoaf.UNKNOWN, () -> x.as(nobody, 0));
        Due.promise(8, "UNKNOWN");
        Due.refused(x, "butter(" + nobody + ", 1)", DryLoaf.UNKNOWN, () -> x.butter(nobody, 1));
        Due.promise(10, "UNKNOWN");
        Due.refused(x, "eat(" + nobody + ", true)", DryLoaf.UNKNOWN, () -> x.eat(nobody, true));
        Due.refused(x, "eat(" + nobody + ", false)", DryLoaf.UNKNOWN, () -> x.eat(nobody, false));
        Due.promise(11, "UNKNOWN");
        Due.refused(x, "belief(" + nobody + ", 0)", DryLoaf.UNKNOWN, () -> x.belief(nobody, 0));
        Due.promise(14, "UNKNOWN");
        Due.refused(x, "driest(" + nobody + ", 0)", DryLoaf.UNKNOWN, () -> x.driest(nobody, 0));
        Due.promise(15, "UNKNOWN");
        Due.refused(x, "hear(" + nobody + ", true, true)", DryLoaf.UNKNOWN, () -> x.hear(nobody, true, true));
        Due.promise(17, "UNKNOWN");
        Due.refused(x, "buttered(" + nobody + ")", DryLoaf.UNKNOWN, () -> x.buttered(nobody));
        Due.promise(18, "UNKNOWN");
        Due.refused(x, "sessions(" + nobody + ", 1, 0, 0)", DryLoaf.UNKNOWN, () -> x.sessions(nobody, 1, 0, 0));
    }

    /** What digest() does not tell of: the image is still the one that was kept. */
    private static void imageBehindRefusals() {
        DryLoaf x = court();
        x.image();
        long kept = x.digest();
        x.loaf(9);
        x.butter(1, 9);
        x.eat(2, true);
        x.hear(2, true, false);
        refuseByNumbers(x, DryLoaf.OUTSIDE);
        Due.promise(5, "STATE: it is none");
        Due.refused(x, "court()", DryLoaf.STATE, x::court);
        Due.promise(20, "It goes on from the IMAGE");
        Due.due("restore()", x.restore(), 1);
        Due.due("digest()", x.digest(), kept);
    }
}
