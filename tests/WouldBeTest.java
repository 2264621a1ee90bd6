/** Promises 13 and 14: right, driest. */
public final class WouldBeTest {
    public static void main(String[] args) {
        right();
        rightLikes();
        rightByButterAndLoaf();
        rightRefusals();
        rightIsDone20Times();
        driest();
        driestRefusals();
        Due.end("WouldBeTest");
    }

    private static void right() {
        // he chokes by 5, if he did it, else by 2: 5 or 2, else 5 or 8
        DryLoaf x = Due.court("p21,p21;5");
        Due.right(x, 0, 1, 2, DryLoaf.NONE);
        Due.right(x, 1, 13, 20, 0);
        // behind 5, 2 at best 50; behind 5, 8 at best 89 (0 eats again)
        Due.right(x, 2, 139, 200, 0);
        Due.due("count(8)", x.count(8), 9);
        Due.due("right() changes no belief", x.belief(0, 1), 2);
        Due.due("nobody ate", x.count(2), 0);
    }

    private static void rightLikes() {
        // no loaf tells anything of the hardened and the weeper
        DryLoaf x = Due.court("h21,w21,h23;5");
        Due.right(x, 0, 3, 5, DryLoaf.NONE);
        Due.right(x, 1, 3, 5, 0);
        Due.right(x, 2, 3, 5, 0);
        Due.right(x, 3, 3, 5, 0);
        // only the last one's mouth tells: 3 or 0 of 1, 1, 1
        DryLoaf y = Due.court("h21,w21,p01;5");
        Due.right(y, 1, 13, 30, 2);
    }

    private static void rightByButterAndLoaf() {
        DryLoaf x = Due.court("p21,p01;5");
        x.butter(0, 9);
        // only 1 can choke, by 3, if he did it: 3 and 10 of 20
        Due.right(x, 1, 13, 20, 1);
        x.loaf(9);
        // 0: 0 and 0; 1: 7 and 4, so 7 and 6
        Due.right(x, 1, 13, 20, 1);
        x.butter(0, 5);
        // 0: 4 and 1, so 4 and 9: like that, and he is the least
        Due.right(x, 1, 13, 20, 0);
        x.eat(0, true);
        Due.right(x, 0, 4, 5, DryLoaf.NONE);
    }

    private static void rightRefusals() {
        DryLoaf x = new DryLoaf();
        Due.due("no court", x.right(1, 0), DryLoaf.STATE);
        Due.due("OUTSIDE ahead of STATE", x.right(4, 0), DryLoaf.OUTSIDE);
        x = Due.court("p21,p21;5");
        Due.due("right(4, 0)", x.right(4, 0), DryLoaf.OUTSIDE);
        Due.due("right(-1, 0)", x.right(-1, 0), DryLoaf.OUTSIDE);
        Due.due("right(0, 3)", x.right(0, 3), DryLoaf.OUTSIDE);
        Due.due("right(0, -1)", x.right(0, -1), DryLoaf.OUTSIDE);
        Due.due("right(largest, least)", x.right(Integer.MAX_VALUE, Integer.MIN_VALUE), DryLoaf.OUTSIDE);
        Due.due("refusals are not done", x.count(8), 0);
    }

    private static void rightIsDone20Times() {
        DryLoaf x = Due.court("p21,p21;5");
        for (int i = 0; i < 20; i++) {
            Due.due("right " + i, x.right(i % 4, 2), i % 4 == 0 ? DryLoaf.NONE : 0);
            Due.due("count(8)", x.count(8), i + 1);
            if (i == 10) {
                x.image();
                Due.write(x, "p21,p21;5");
                x.court();
                x.image();
            }
        }
        Due.due("the 21st", x.right(0, 0), DryLoaf.STATE);
        Due.due("OUTSIDE ahead of it", x.right(0, 3), DryLoaf.OUTSIDE);
        x.restore();
        Due.due("an image gives none back", x.right(0, 0), DryLoaf.STATE);
        Due.write(x, "p21,p21;5");
        Due.due("court()", x.court(), 2);
        Due.due("nor does another court", x.right(0, 0), DryLoaf.STATE);
        Due.due("count(8) stays", x.count(8), 20);
    }

    private static void driest() {
        // by DRY, and DRY less 3: 13 of 20 from 3 on
        DryLoaf x = Due.court("p21,p21;5");
        Due.driest(x, 0, 3, 13, 20);
        Due.due("the loaf stays as it is", x.count(1), 5);
        x.loaf(9);
        Due.driest(x, 0, 3, 13, 20);
        x.butter(0, 2);
        Due.driest(x, 0, 5, 13, 20);
        Due.driest(x, 1, 3, 13, 20);
        x.butter(0, 9);
        Due.driest(x, 0, 1, 1, 2);
        // all the same to the hardened
        Due.driest(Due.court("h23,h21;5"), 1, 1, 3, 4);
        // a thief: 0 and 9 at 5, 1 and 10 at 6
        Due.driest(Due.court("t91,p91;7"), 0, 5, 19, 20);
        // the edges: only at 9 3 and 0; from 1 on 8 and 5
        DryLoaf z = Due.court("p01,p91;5");
        z.butter(0, 4);
        Due.driest(z, 0, 9, 13, 20);
        Due.driest(z, 1, 1, 13, 20);
        // 3 and 0 at 5: 6 and 30 of 50
        DryLoaf y = Due.court("p02,p03;1");
        Due.driest(y, 0, 5, 18, 25);
        Due.due("driest() is not right()", y.count(8), 0);
        Due.due("and nobody ate", y.count(2), 0);
    }

    private static void driestRefusals() {
        DryLoaf x = Due.court("p21,p21;5");
        Due.due("driest(2, 0)", x.driest(2, 0), DryLoaf.UNKNOWN);
        Due.due("driest(-1, 0)", x.driest(-1, 0), DryLoaf.UNKNOWN);
        Due.due("driest(0, 3)", x.driest(0, 3), DryLoaf.OUTSIDE);
        Due.due("driest(0, -1)", x.driest(0, -1), DryLoaf.OUTSIDE);
        Due.due("UNKNOWN first", x.driest(2, 3), DryLoaf.UNKNOWN);
    }
}
