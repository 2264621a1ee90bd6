/** Promises 1 to 5: a new object, letter, blank, fault, court. */
public final class CourtTest {
    public static void main(String[] args) {
        newObject();
        letter();
        blank();
        fault();
        court();
        courtIsAnother();
        Due.end("CourtTest");
    }

    private static void newObject() {
        DryLoaf x = new DryLoaf();
        for (int what = 0; what <= 8; what++) {
            Due.due("new: count(" + what + ")", x.count(what), 0);
        }
        Due.due("new: judged()", x.judged(), DryLoaf.STATE);
        Due.due("new: about(0, 0)", x.about(0, 0), DryLoaf.UNKNOWN);
        Due.due("new: as(0, 0)", x.as(0, 0), DryLoaf.UNKNOWN);
        Due.due("new: butter(0, 1)", x.butter(0, 1), DryLoaf.UNKNOWN);
        Due.due("new: eat(0, true)", x.eat(0, true), DryLoaf.UNKNOWN);
        Due.due("new: belief(0, 0)", x.belief(0, 0), DryLoaf.UNKNOWN);
        Due.due("new: right(0, 0)", x.right(0, 0), DryLoaf.STATE);
        Due.due("new: driest(0, 0)", x.driest(0, 0), DryLoaf.UNKNOWN);
        Due.due("new: hear(0, true, true)", x.hear(0, true, true), DryLoaf.UNKNOWN);
        Due.due("new: forget()", x.forget(), 0);
        Due.due("new: buttered(0)", x.buttered(0), DryLoaf.UNKNOWN);
        Due.due("new: sessions(0, 1, 0, 0)", x.sessions(0, 1, 0, 0), DryLoaf.UNKNOWN);
        Due.due("new: image()", x.image(), DryLoaf.STATE);
        Due.due("new: restore()", x.restore(), DryLoaf.STATE);
        Due.due("new: loaf(1)", x.loaf(1), DryLoaf.STATE);
        Due.due("new: blank()", x.blank(), 0);
        Due.due("new: fault()", x.fault(), 0);
        Due.due("new: court()", x.court(), DryLoaf.STATE);
    }

    private static void letter() {
        DryLoaf x = new DryLoaf();
        Due.due("letter(31)", x.letter(31), DryLoaf.OUTSIDE);
        Due.due("letter(127)", x.letter(127), DryLoaf.OUTSIDE);
        Due.due("letter(-1)", x.letter(-1), DryLoaf.OUTSIDE);
        Due.due("letter(112 and 2 to the 16)", x.letter(112 + 65536), DryLoaf.OUTSIDE);
        Due.due("letter(least)", x.letter(Integer.MIN_VALUE), DryLoaf.OUTSIDE);
        Due.due("count(6) after refusals", x.count(6), 0);
        for (int i = 1; i <= 18; i++) {
            Due.due("letter " + i, x.letter(i % 2 == 0 ? 32 : 126), i);
        }
        Due.due("letter 19", x.letter(112), DryLoaf.FULL);
        Due.due("OUTSIDE comes ahead of FULL", x.letter(127), DryLoaf.OUTSIDE);
        Due.due("count(6) when full", x.count(6), 18);
    }

    private static void blank() {
        DryLoaf x = Due.page("p01,");
        Due.due("blank() of 4", x.blank(), 4);
        Due.due("blank() of none", x.blank(), 0);
        Due.write(x, "h23,w45;6");
        Due.due("fault() behind blank()", x.fault(), 9);
        Due.due("court() behind blank()", x.court(), 2);
        Due.due("its kind is not the blanked one", x.about(0, 0), 1);
    }

    private static void fault() {
        faulty("x", 0);
        faulty("P01", 0);
        faulty("p", 1);
        faulty("h", 1);
        faulty("w", 1);
        faulty("r", 1);
        faulty("t", 1);
        faulty("pp", 1);
        faulty("p/", 1);
        faulty("p:", 1);
        faulty("p00", 2);
        faulty("p0:", 2);
        faulty("p09", 3);
        faulty("p91", 3);
        faulty("p01;", 3);
        faulty("p01.", 3);
        faulty("p01,;", 4);
        faulty("p01,h01", 7);
        faulty("p01,h01.", 7);
        faulty("p01,h01;", 8);
        faulty("p01,h01;0", 8);
        faulty("p01,h01;:", 8);
        faulty("p01,h01;;", 8);
        faulty("p01,h01;1", 9);
        faulty("p01,h01;9", 9);
        faulty("p01,h01;9;", 9);
        faulty("p01,h01;11", 9);
        faulty("p01,h01;1,t11", 9);
        faulty("p01,h01,w01;1", 13);
        faulty("p01,h01,w01,r01,", 15);
        faulty("p01,h01,w01,r01,t01;", 15);
        faulty("p01,h01,w01,r01;1", 17);
        faulty("p01,h01,w01,r01;11", 17);
        faulty(" p01,h01;1", 0);
        faulty("p01, h01;1", 4);
    }

    private static void faulty(String text, int place) {
        Due.due("fault() of " + text, Due.page(text).fault(), place);
    }

    private static void court() {
        String[] none = {"", "p", "p01", "p01;1", "p01,", "p01,h01", "p01,h01;", "p01,h01;0", "p01,h01;11", "p00,h01;1",
            "p01,h01,w01,r01,", "p01,h01,w01,r01", "p01,h01,w01,r01;", "p01,h01,w01,r01;11", "q01,h01;1"};
        for (String text : none) {
            DryLoaf x = Due.page(text);
            Due.due("court() of " + text, x.court(), DryLoaf.STATE);
            Due.due("the page stays: " + text, x.count(6), text.length());
            Due.due("none was read: " + text, x.count(7), 0);
            Due.due("nobody is accused: " + text, x.count(0), 0);
        }
        String[] some = {"p01,h01;1", "p01,h01,w01;5", "p01,h01,w01,r01;9"};
        for (int i = 0; i < some.length; i++) {
            DryLoaf x = Due.page(some[i]);
            Due.due("court() of " + some[i], x.court(), i + 2);
            Due.due("the page is empty", x.count(6), 0);
            Due.due("count(0)", x.count(0), i + 2);
            Due.due("count(1)", x.count(1), 4 * i + 1);
            Due.due("count(7)", x.count(7), 1);
            Due.due("court() again", x.court(), DryLoaf.STATE);
            Due.due("one more is nobody", x.about(i + 2, 0), DryLoaf.UNKNOWN);
        }
    }

    private static void courtIsAnother() {
        DryLoaf x = Due.court("w51,p51,p53,t99;5");
        x.butter(0, 3);
        x.eat(0, true);
        x.hear(0, true, false);
        x.right(1, 0);
        Due.write(x, "h11,h1");
        Due.due("court() refused", x.court(), DryLoaf.STATE);
        Due.due("it changed nothing", x.count(0) * 1000 + x.count(4) * 100 + x.count(2) * 10 + x.count(5), 4311);
        x.blank();
        Due.write(x, "h11,h12;7");
        Due.due("court() of two", x.court(), 2);
        Due.due("the third is gone", x.about(2, 0), DryLoaf.UNKNOWN);
        int[] want = {2, 7, 0, 0, 0, 0, 0, 2, 1};
        for (int what = 0; what <= 8; what++) {
            Due.due("another court: count(" + what + ")", x.count(what), want[what]);
        }
        Due.due("nothing is heard: buttered(0)", x.buttered(0), 1023);
        Due.belief(x, 0, 1, 3);
        Due.belief(x, 1, 2, 3);
        Due.due("judged() of two", x.judged(), 1);
    }
}
