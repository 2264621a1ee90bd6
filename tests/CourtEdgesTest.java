/** Promises 1 to 5 at their edges: each test is for one sentence of the document, which it names. */
public final class CourtEdgesTest {
    private static final String KINDS = "phwrt";
    private static final String FEARS = "0123456789";
    private static final String ODDS = "123456789";
    private static final String DRY = "123456789";
    private static final String[] WHOLE = {"p01,h91;1", "w09,r99,t01;9", "t91,r11,w55,h01;5"};

    public static void main(String[] args) {
        newObjectHasNoCourt();
        objectsShareNothing();
        letterTellsHowMany();
        letterOutside();
        letterFull();
        letterOutsideAheadOfFull();
        blankOfAnEmptyPage();
        blankOfAFullPage();
        blankLeavesTheCourt();
        faultOfAnEmptyPage();
        faultOfEveryLetterAtEveryPlace();
        faultIsTheFirst();
        faultOfNoneIsHowMany();
        faultOfAFullPage();
        faultChangesNothing();
        courtOfTwoToFour();
        courtOfOneOrFive();
        courtOfAPart();
        courtWithMoreBehind();
        courtOfDigitsAtTheEdges();
        courtLeavesAnEmptyPage();
        courtBeginsWithoutButter();
        courtBeginsWithOdds();
        courtBeginsUnheard();
        courtBeginsUneaten();
        courtOfFewerThanBefore();
        courtOfMoreThanBefore();
        courtRefused();
        Due.end("CourtEdgesTest");
    }

    private static void newObjectHasNoCourt() {
        Due.promise(1, "No COURT.");
        DryLoaf x = new DryLoaf();
        Due.due("count(0)", x.count(0), 0);
        Due.due("judged()", x.judged(), DryLoaf.STATE);
        Due.due("image()", x.image(), DryLoaf.STATE);
        for (int i = -1; i <= 4; i++) {
            Due.due("about(" + i + ", 0)", x.about(i, 0), DryLoaf.UNKNOWN);
        }
    }

    private static void objectsShareNothing() {
        Due.promise(1, "No COURT.");
        DryLoaf first = Due.court(WHOLE[2]);
        first.letter('p');
        first.image();
        DryLoaf second = new DryLoaf();
        Due.due("count(0) of a second object", second.count(0), 0);
        Due.due("count(6) of a second object", second.count(6), 0);
        Due.due("restore() of a second object", second.restore(), DryLoaf.STATE);
        Due.due("count(0) of the first", first.count(0), 4);
    }

    private static void letterTellsHowMany() {
        Due.promise(2, "how many THE PAGE has");
        DryLoaf x = new DryLoaf();
        for (int i = 1; i <= 18; i++) {
            Due.due("letter " + i, x.letter(' ' + i), i);
        }
        x.blank();
        Due.due("the first behind blank()", x.letter(' '), 1);
    }

    private static void letterOutside() {
        Due.promise(2, "OUTSIDE: code (32 to 126)");
        DryLoaf x = Due.page("p0");
        for (int code : Due.outsideOf(32, 126)) {
            Due.refused(x, "letter(" + code + ")", DryLoaf.OUTSIDE, () -> x.letter(code));
        }
        Due.refused(x, "letter(0)", DryLoaf.OUTSIDE, () -> x.letter(0));
        Due.refused(x, "letter(-112)", DryLoaf.OUTSIDE, () -> x.letter(-112));
        Due.refused(x, "letter(112 and 2 to the 8)", DryLoaf.OUTSIDE, () -> x.letter(112 + 256));
        Due.due("letter(32)", x.letter(32), 3);
        Due.due("letter(126)", x.letter(126), 4);
        for (int code = 32; code <= 126; code++) {
            Due.due("letter(" + code + ")", new DryLoaf().letter(code), 1);
        }
    }

    private static void letterFull() {
        Due.promise(2, "FULL: above 18");
        DryLoaf x = Due.page("p01,h01,w01,r01;1");
        Due.due("letter 18", x.letter('x'), 18);
        Due.refused(x, "letter 19", DryLoaf.FULL, () -> x.letter('y'));
        Due.refused(x, "letter 19 once more", DryLoaf.FULL, () -> x.letter(32));
        Due.due("blank()", x.blank(), 18);
        Due.due("letter behind blank()", x.letter('p'), 1);
    }

    private static void letterOutsideAheadOfFull() {
        Due.promise(2, "OUTSIDE: code (32 to 126); FULL: above 18");
        DryLoaf x = Due.page("pppppppppppppppppp");
        Due.refused(x, "letter(31) on a full page", DryLoaf.OUTSIDE, () -> x.letter(31));
        Due.refused(x, "letter(127) on a full page", DryLoaf.OUTSIDE, () -> x.letter(127));
    }

    private static void blankOfAnEmptyPage() {
        Due.promise(3, "THE PAGE is empty: how many letters it had");
        DryLoaf x = new DryLoaf();
        Due.due("blank() of a new object", x.blank(), 0);
        x.letter('p');
        Due.due("blank() of one letter", x.blank(), 1);
        Due.due("blank() again", x.blank(), 0);
        Due.due("count(6)", x.count(6), 0);
        Due.due("fault()", x.fault(), 0);
    }

    private static void blankOfAFullPage() {
        Due.promise(3, "THE PAGE is empty: how many letters it had");
        DryLoaf x = Due.page("xxxxxxxxxxxxxxxxxx");
        Due.due("blank() of 18", x.blank(), 18);
        Due.write(x, WHOLE[2]);
        Due.due("nothing is left of them: fault()", x.fault(), 17);
        Due.due("nothing is left of them: court()", x.court(), 4);
    }

    private static void blankLeavesTheCourt() {
        Due.promise(3, "THE PAGE is empty");
        DryLoaf x = Due.court(WHOLE[2]);
        x.butter(3, 9);
        x.eat(0, false);
        x.hear(1, true, true);
        long before = x.digest();
        Due.write(x, WHOLE[0]);
        Due.due("blank()", x.blank(), 9);
        Due.due("digest()", x.digest(), before);
    }

    private static void faultOfAnEmptyPage() {
        Due.promise(4, "how many letters it has, if there is none");
        Due.due("fault() of an empty page", new DryLoaf().fault(), 0);
        Due.due("fault() behind court()", Due.court(WHOLE[0]).fault(), 0);
    }

    /** Behind WHOLE[n] cut at each place every letter is tried: those that fit there stand at the place in this row. */
    private static void faultOfEveryLetterAtEveryPlace() {
        Due.promise(4, "the first letter of THE PAGE that no COURT has there, behind those ahead of it");
        everyLetter(WHOLE[0], KINDS, FEARS, ODDS, ",", KINDS, FEARS, ODDS, ",;", DRY, "");
        everyLetter(WHOLE[1], KINDS, FEARS, ODDS, ",", KINDS, FEARS, ODDS, ",;", KINDS, FEARS, ODDS, ",;", DRY, "");
        everyLetter(WHOLE[2], KINDS, FEARS, ODDS, ",", KINDS, FEARS, ODDS, ",;", KINDS, FEARS, ODDS, ",;",
            KINDS, FEARS, ODDS, ";", DRY, "");
    }

    private static void everyLetter(String whole, String... fitting) {
        for (int place = 0; place < fitting.length; place++) {
            for (char letter = 32; letter <= 126; letter++) {
                String text = whole.substring(0, place) + letter;
                int want = fitting[place].indexOf(letter) >= 0 ? place + 1 : place;
                Due.due("fault() of " + text, Due.page(text).fault(), want);
            }
        }
    }

    private static void faultIsTheFirst() {
        Due.promise(4, "The place (from 0) of the first letter");
        Due.due("fault() of three", Due.page("p0x,h0x;x").fault(), 2);
        Due.due("what follows does not mend it", Due.page("xp01,h01;1").fault(), 0);
        Due.due("fault() of one behind a whole one", Due.page("p01,h01;1p01,h01;1").fault(), 9);
        DryLoaf x = Due.page("p01;");
        Due.due("fault()", x.fault(), 3);
        x.letter('1');
        Due.due("fault() with one letter more", x.fault(), 3);
    }

    private static void faultOfNoneIsHowMany() {
        Due.promise(4, "how many letters it has, if there is none");
        for (String whole : WHOLE) {
            DryLoaf x = new DryLoaf();
            for (int many = 1; many <= whole.length(); many++) {
                x.letter(whole.charAt(many - 1));
                Due.due("fault() of " + whole.substring(0, many), x.fault(), many);
            }
        }
    }

    private static void faultOfAFullPage() {
        Due.promise(4, "The place (from 0) of the first letter");
        Due.due("fault() in the last of 18", Due.page(WHOLE[2] + "5").fault(), 17);
        Due.due("fault() in the second of 18", Due.page("pppppppppppppppppp").fault(), 1);
        Due.due("fault() of a fifth", Due.page("p01,h01,w01,r01,t0").fault(), 15);
    }

    private static void faultChangesNothing() {
        Due.promise(4, "fault()");
        DryLoaf x = Due.court(WHOLE[1]);
        Due.write(x, "p01x");
        long before = x.digest();
        x.fault();
        Due.due("digest() behind fault()", x.digest(), before);
    }

    private static void courtOfTwoToFour() {
        Due.promise(5, "how many ACCUSED");
        for (int i = 0; i < WHOLE.length; i++) {
            DryLoaf x = Due.page(WHOLE[i]);
            Due.due("court() of " + WHOLE[i], x.court(), i + 2);
            Due.due("the last one's kind", x.about(i + 1, 0), KINDS.indexOf(WHOLE[i].charAt(4 * i + 4)));
            Due.due("one more", x.about(i + 2, 0), DryLoaf.UNKNOWN);
        }
    }

    private static void courtOfOneOrFive() {
        Due.promise(5, "STATE: it is none");
        isNone("p01;1");
        isNone("p01,;1");
        isNone("p01,h01,w01,r01,t0");
        isNone("p01,h01,w01,r01,;1");
    }

    private static void courtOfAPart() {
        Due.promise(5, "STATE: it is none");
        for (String whole : WHOLE) {
            for (int many = 0; many < whole.length(); many++) {
                isNone(whole.substring(0, many));
            }
        }
    }

    private static void courtWithMoreBehind() {
        Due.promise(5, "STATE: it is none");
        for (String whole : WHOLE) {
            for (char letter = 32; letter <= 126; letter++) {
                isNone(whole + letter);
            }
        }
        isNone("p01,h01;1p01,h01;1");
    }

    private static void courtOfDigitsAtTheEdges() {
        Due.promise(5, "STATE: it is none");
        isNone("p00,h01;1");
        isNone("p01,h00;1");
        isNone("p01,h01;0");
        isNone("p/1,h01;1");
        isNone("p:1,h01;1");
        isNone("p01,h0:;1");
        isNone("p01,h01;:");
        DryLoaf least = Due.court("p01,h01;1");
        Due.due("FEAR 0", least.about(1, 1), 0);
        Due.due("ODDS 1", least.about(1, 2), 1);
        Due.due("DRY 1", least.count(1), 1);
        DryLoaf most = Due.court("p99,h99;9");
        Due.due("FEAR 9", most.about(1, 1), 9);
        Due.due("ODDS 9", most.about(1, 2), 9);
        Due.due("DRY 9", most.count(1), 9);
    }

    private static void isNone(String text) {
        DryLoaf x = Due.page(text);
        Due.refused(x, "court() of \"" + text + "\"", DryLoaf.STATE, x::court);
        Due.due("count(6) of \"" + text + "\"", x.count(6), text.length());
    }

    private static void courtLeavesAnEmptyPage() {
        Due.promise(5, "THE PAGE is empty then");
        DryLoaf x = Due.court(WHOLE[2]);
        Due.due("count(6)", x.count(6), 0);
        Due.due("blank()", x.blank(), 0);
        Due.refused(x, "court() again", DryLoaf.STATE, x::court);
        Due.due("the next letter", x.letter('p'), 1);
    }

    private static DryLoaf courtOfMuch() {
        DryLoaf x = Due.court("p41,h21,w33,r99;5");
        for (int i = 0; i < 4; i++) {
            x.butter(i, 9 - i);
            x.hear(i, false, true);
        }
        x.butter(0, 1);
        x.eat(0, true);
        x.eat(3, false);
        return x;
    }

    private static void courtBeginsWithoutButter() {
        Due.promise(5, "another one is gone, with BUTTER");
        DryLoaf x = courtOfMuch();
        Due.write(x, "p41,h21,w33,r99;5");
        x.court();
        Due.due("count(4)", x.count(4), 0);
        for (int i = 0; i < 4; i++) {
            Due.due("about(" + i + ", 3)", x.about(i, 3), 0);
        }
    }

    private static void courtBeginsWithOdds() {
        Due.promise(5, "another one is gone, with .. WEIGHTS");
        DryLoaf x = courtOfMuch();
        Due.write(x, "p41,h21,w33,r99;5");
        x.court();
        Due.belief(x, 0, 1, 14);
        Due.belief(x, 1, 1, 14);
        Due.belief(x, 2, 3, 14);
        Due.belief(x, 3, 9, 14);
        Due.due("judged()", x.judged(), 3);
    }

    private static void courtBeginsUnheard() {
        Due.promise(5, "another one is gone, with .. HEARD");
        DryLoaf x = courtOfMuch();
        Due.due("count(5) ahead of it", x.count(5), 4);
        Due.write(x, "p41,h21,w33,r99;5");
        x.court();
        Due.due("count(5)", x.count(5), 0);
        for (int i = 0; i < 4; i++) {
            Due.due("buttered(" + i + ")", x.buttered(i), 1023);
        }
    }

    private static void courtBeginsUneaten() {
        Due.promise(5, "another one is gone");
        DryLoaf x = courtOfMuch();
        Due.due("count(2) ahead of it", x.count(2), 2);
        Due.write(x, "p41,h21,w33,r99;5");
        x.court();
        Due.due("count(2)", x.count(2), 0);
        Due.due("count(3)", x.count(3), 0);
        for (int i = 0; i < 4; i++) {
            Due.due("about(" + i + ", 6)", x.about(i, 6), 0);
            Due.due("about(" + i + ", 7)", x.about(i, 7), 0);
        }
    }

    private static void courtOfFewerThanBefore() {
        Due.promise(5, "another one is gone");
        DryLoaf x = courtOfMuch();
        Due.write(x, "t12,w01;2");
        Due.due("court()", x.court(), 2);
        Due.due("about(2, 0)", x.about(2, 0), DryLoaf.UNKNOWN);
        Due.due("about(3, 0)", x.about(3, 0), DryLoaf.UNKNOWN);
        Due.due("kinds", x.about(0, 0) * 10 + x.about(1, 0), 42);
        Due.due("count(4)", x.count(4), 0);
        Due.due("judged()", x.judged(), 0);
        Due.belief(x, 0, 2, 3);
        Due.belief(x, 1, 1, 3);
        Due.right(x, 0, 2, 3, DryLoaf.NONE);
    }

    private static void courtOfMoreThanBefore() {
        Due.promise(5, "another one is gone");
        DryLoaf x = Due.court("t12,w01;2");
        Due.write(x, "p41,h21,w33,r99;5");
        Due.due("court()", x.court(), 4);
        Due.due("kinds", x.about(0, 0) * 1000 + x.about(1, 0) * 100 + x.about(2, 0) * 10 + x.about(3, 0), 123);
        Due.due("about(3, 2)", x.about(3, 2), 9);
        Due.due("judged()", x.judged(), 3);
        Due.due("buttered(3)", x.buttered(3), 1023);
    }

    private static void courtRefused() {
        Due.promise(5, "STATE: it is none");
        DryLoaf x = courtOfMuch();
        Due.refused(x, "court() of an empty page", DryLoaf.STATE, x::court);
        Due.write(x, "p01,h01;0");
        Due.refused(x, "court() of dry 0", DryLoaf.STATE, x::court);
        Due.due("count(0)", x.count(0), 4);
        Due.due("count(7)", x.count(7), 1);
        Due.due("blank()", x.blank(), 9);
    }
}
