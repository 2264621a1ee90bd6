import java.math.BigInteger;
import java.util.ArrayList;
import java.util.List;
import java.util.regex.Matcher;
import java.util.regex.Pattern;

/**
 * The document told a second time, in another way than the class does: nothing is kept but what happened,
 * and every answer is worked out anew from that, with fractions that cannot overflow.
 */
final class Model {
    private static final Pattern COURT = Pattern.compile("[phwrt][0-9][1-9](,[phwrt][0-9][1-9]){1,3};[1-9]");

    /** A meal, or what is heard of one. */
    record Meal(int eater, boolean did, boolean choked, int dry, int butter) {
    }

    private static final class Fraction {
        final BigInteger above;
        final BigInteger below;

        Fraction(BigInteger above, BigInteger below) {
            BigInteger g = above.gcd(below);
            this.above = above.divide(g);
            this.below = below.divide(g);
        }

        Fraction plus(Fraction other) {
            BigInteger sum = above.multiply(other.below).add(other.above.multiply(below));
            return new Fraction(sum, below.multiply(other.below));
        }

        Fraction times(long a, long b) {
            return new Fraction(above.multiply(BigInteger.valueOf(a)), below.multiply(BigInteger.valueOf(b)));
        }

        boolean isMoreThan(Fraction other) {
            return above.multiply(other.below).compareTo(other.above.multiply(below)) > 0;
        }

        long part(int which) {
            return (which == 0 ? above : below).longValueExact();
        }
    }

    private static final Fraction ZERO = new Fraction(BigInteger.ZERO, BigInteger.ONE);

    private String page = "";
    private String court = "";
    private int dry = 0;
    private List<Integer> butter = new ArrayList<>();
    private List<Meal> eaten = new ArrayList<>();
    private List<Meal> heard = new ArrayList<>();
    private boolean isKept = false;
    private int keptDry;
    private List<Integer> keptButter;
    private List<Meal> keptEaten;
    private List<Meal> keptHeard;
    private int read = 0;
    private int rights = 0;

    private int many() {
        return court.isEmpty() ? 0 : (court.length() - 1) / 4;
    }

    private boolean isUnknown(int accused) {
        return accused < 0 || accused >= many();
    }

    private static boolean isOutside(int v, int least, int most) {
        return v < least || v > most;
    }

    private char kindLetter(int accused) {
        return court.charAt(4 * accused);
    }

    private int fear(int accused) {
        return court.charAt(4 * accused + 1) - '0';
    }

    private int odds(int accused) {
        return court.charAt(4 * accused + 2) - '0';
    }

    private int tenths(int accused, boolean did, int onDry, int withButter) {
        int fear = fear(accused);
        int dreads = switch (kindLetter(accused)) {
            case 'p' -> did ? fear + 3 : fear;
            case 'h' -> fear;
            case 'w' -> fear + 3;
            case 'r' -> did ? fear / 2 + 3 : fear / 2;
            default -> did ? 0 : fear;
        };
        int tenths = dreads + onDry - withButter - 5;
        return tenths < 0 ? 0 : tenths > 10 ? 10 : tenths;
    }

    /** How likely all these meals are, if this one did it, times how likely he is said to have done it. */
    private Fraction weight(int doer, List<Meal> meals) {
        Fraction weight = new Fraction(BigInteger.valueOf(odds(doer)), BigInteger.ONE);
        for (Meal meal : meals) {
            int tenths = tenths(meal.eater, meal.eater == doer, meal.dry, meal.butter);
            weight = weight.times(meal.choked ? tenths : 10 - tenths, 10);
        }
        return weight;
    }

    private Fraction weightOfAll(List<Meal> meals) {
        Fraction all = ZERO;
        for (int i = 0; i < many(); i++) {
            all = all.plus(weight(i, meals));
        }
        return all;
    }

    private Fraction ofAll(Fraction weight) {
        Fraction all = weightOfAll(eaten);
        return new Fraction(weight.above.multiply(all.below), weight.below.multiply(all.above));
    }

    private int heaviest(List<Meal> meals) {
        int most = 0;
        for (int i = 1; i < many(); i++) {
            if (weight(i, meals).isMoreThan(weight(most, meals))) {
                most = i;
            }
        }
        return most;
    }

    private static List<Meal> with(List<Meal> meals, Meal one) {
        List<Meal> more = new ArrayList<>(meals);
        more.add(one);
        return more;
    }

    private Fraction sureBy(List<Meal> meals, int loaves) {
        if (loaves == 0) {
            return weight(heaviest(meals), meals);
        }
        Fraction best = ZERO;
        for (int i = 0; i < many(); i++) {
            Fraction by = sureIfEats(meals, i, loaves, dry);
            best = by.isMoreThan(best) ? by : best;
        }
        return best;
    }

    private Fraction sureIfEats(List<Meal> meals, int eater, int loaves, int onDry) {
        Meal chokes = new Meal(eater, false, true, onDry, butter.get(eater));
        Meal swallows = new Meal(eater, false, false, onDry, butter.get(eater));
        return sureBy(with(meals, chokes), loaves - 1).plus(sureBy(with(meals, swallows), loaves - 1));
    }

    int letter(int code) {
        if (isOutside(code, 32, 126)) {
            return DryLoaf.OUTSIDE;
        }
        if (page.length() == 18) {
            return DryLoaf.FULL;
        }
        page += (char) code;
        return page.length();
    }

    int blank() {
        int had = page.length();
        page = "";
        return had;
    }

    int fault() {
        int place = 0;
        while (place < page.length() && mayBegin(page.substring(0, place + 1))) {
            place++;
        }
        return place;
    }

    private static boolean mayBegin(String text) {
        Matcher m = COURT.matcher(text);
        return m.matches() || m.hitEnd();
    }

    int court() {
        if (!COURT.matcher(page).matches()) {
            return DryLoaf.STATE;
        }
        court = page;
        page = "";
        dry = court.charAt(court.length() - 1) - '0';
        eaten = new ArrayList<>();
        heard = new ArrayList<>();
        butter = new ArrayList<>();
        for (int i = 0; i < many(); i++) {
            butter.add(0);
        }
        read++;
        isKept = false;
        return many();
    }

    private int times(int accused, boolean onlyChoked) {
        int times = 0;
        for (Meal meal : eaten) {
            times += (accused < 0 || meal.eater == accused) && (meal.choked || !onlyChoked) ? 1 : 0;
        }
        return times;
    }

    /** Each butter takes a tenth, but what is bound to 10 tenths is more than 9 of butter can take. */
    private int need(int accused) {
        int most = Math.max(tenths(accused, true, dry, 0), tenths(accused, false, dry, 0));
        return most == 10 ? DryLoaf.NONE : most;
    }

    int about(int accused, int what) {
        if (isUnknown(accused)) {
            return DryLoaf.UNKNOWN;
        }
        if (isOutside(what, 0, 8)) {
            return DryLoaf.OUTSIDE;
        }
        int[] told = {"phwrt".indexOf(kindLetter(accused)), fear(accused), odds(accused), butter.get(accused),
            tenths(accused, true, dry, butter.get(accused)), tenths(accused, false, dry, butter.get(accused)),
            times(accused, false), times(accused, true), need(accused)};
        return told[what];
    }

    int as(int accused, int kind) {
        if (isUnknown(accused)) {
            return DryLoaf.UNKNOWN;
        }
        if (isOutside(kind, 0, 4)) {
            return DryLoaf.OUTSIDE;
        }
        char letter = kindLetter(accused);
        boolean such = kind == 0 || "phwrt".charAt(kind) == letter || kind == 1 && letter == 't';
        return such ? accused : DryLoaf.NONE;
    }

    int butter(int accused, int v) {
        if (isUnknown(accused)) {
            return DryLoaf.UNKNOWN;
        }
        return isOutside(v, 0, 9) ? DryLoaf.OUTSIDE : butter.set(accused, v);
    }

    int loaf(int v) {
        if (isOutside(v, 1, 9)) {
            return DryLoaf.OUTSIDE;
        }
        if (many() == 0) {
            return DryLoaf.STATE;
        }
        int was = dry;
        dry = v;
        return was;
    }

    int eat(int accused, boolean chokes) {
        if (isUnknown(accused)) {
            return DryLoaf.UNKNOWN;
        }
        List<Meal> then = with(eaten, new Meal(accused, false, chokes, dry, butter.get(accused)));
        if (!weightOfAll(then).isMoreThan(ZERO)) {
            return DryLoaf.STATE;
        }
        if (eaten.size() == 6) {
            return DryLoaf.FULL;
        }
        eaten = then;
        return heaviest(eaten);
    }

    long belief(int accused, int what) {
        if (isUnknown(accused)) {
            return DryLoaf.UNKNOWN;
        }
        return isOutside(what, 0, 1) ? DryLoaf.OUTSIDE : ofAll(weight(accused, eaten)).part(what);
    }

    int judged() {
        return many() == 0 ? DryLoaf.STATE : heaviest(eaten);
    }

    long right(int loaves, int what) {
        if (isOutside(loaves, 0, 3) || isOutside(what, 0, 2)) {
            return DryLoaf.OUTSIDE;
        }
        if (many() == 0 || rights == 20) {
            return DryLoaf.STATE;
        }
        rights++;
        if (what < 2) {
            return ofAll(sureBy(eaten, loaves)).part(what);
        }
        int first = loaves == 0 ? DryLoaf.NONE : 0;
        for (int i = 1; i < many() && loaves > 0; i++) {
            if (sureIfEats(eaten, i, loaves, dry).isMoreThan(sureIfEats(eaten, first, loaves, dry))) {
                first = i;
            }
        }
        return first;
    }

    long driest(int accused, int what) {
        if (isUnknown(accused)) {
            return DryLoaf.UNKNOWN;
        }
        if (isOutside(what, 0, 2)) {
            return DryLoaf.OUTSIDE;
        }
        int best = 9;
        for (int onDry = 8; onDry >= 1; onDry--) {
            if (!sureIfEats(eaten, accused, 1, best).isMoreThan(sureIfEats(eaten, accused, 1, onDry))) {
                best = onDry;
            }
        }
        return what == 0 ? best : ofAll(sureIfEats(eaten, accused, 1, best)).part(what - 1);
    }

    int hear(int accused, boolean did, boolean choked) {
        if (isUnknown(accused)) {
            return DryLoaf.UNKNOWN;
        }
        if (heard.size() == 6) {
            return DryLoaf.FULL;
        }
        heard.add(new Meal(accused, did, choked, dry, 0));
        return heard.size();
    }

    int forget() {
        int was = heard.size();
        heard.clear();
        return was;
    }

    int buttered(int accused) {
        if (isUnknown(accused)) {
            return DryLoaf.UNKNOWN;
        }
        int bits = 0;
        for (int b = 0; b <= 9; b++) {
            boolean could = true;
            for (Meal meal : heard) {
                int tenths = tenths(accused, meal.did, meal.dry, b);
                could &= meal.eater != accused || (meal.choked ? tenths > 0 : tenths < 10);
            }
            bits += could ? 1 << b : 0;
        }
        return bits;
    }

    int sessions(int accused, int times, int seed, int what) {
        if (isUnknown(accused)) {
            return DryLoaf.UNKNOWN;
        }
        if (isOutside(times, 1, 60) || seed < 0 || isOutside(what, 0, 2)) {
            return DryLoaf.OUTSIDE;
        }
        int[] told = {0, 0, seed};
        for (int i = 0; i < times; i++) {
            told[2] = nextSeed(told[2]);
            int eater = (told[2] >>> 16) % many();
            told[2] = nextSeed(told[2]);
            if ((told[2] >>> 16) % 10 < tenths(eater, eater == accused, dry, butter.get(eater))) {
                told[0]++;
                told[1] += eater == accused ? 0 : 1;
            }
        }
        return told[what];
    }

    private static int nextSeed(int seed) {
        return BigInteger.valueOf(1103515245).multiply(BigInteger.valueOf(seed)).add(BigInteger.valueOf(12345))
            .mod(BigInteger.TWO.pow(31)).intValueExact();
    }

    int image() {
        if (many() == 0) {
            return DryLoaf.STATE;
        }
        isKept = true;
        keptDry = dry;
        keptButter = new ArrayList<>(butter);
        keptEaten = new ArrayList<>(eaten);
        keptHeard = new ArrayList<>(heard);
        return eaten.size();
    }

    int restore() {
        if (!isKept) {
            return DryLoaf.STATE;
        }
        dry = keptDry;
        butter = new ArrayList<>(keptButter);
        eaten = new ArrayList<>(keptEaten);
        heard = new ArrayList<>(keptHeard);
        return eaten.size();
    }

    int count(int what) {
        int allButter = 0;
        for (int b : butter) {
            allButter += b;
        }
        int[] told = {many(), dry, eaten.size(), times(-1, true), allButter, heard.size(), page.length(), read, rights};
        return isOutside(what, 0, 8) ? DryLoaf.OUTSIDE : told[what];
    }

    long digest() {
        List<Long> numbers = new ArrayList<>();
        for (int i = 0; i < many(); i++) {
            for (int what = 0; what <= 8; what++) {
                numbers.add((long) about(i, what));
            }
            numbers.add(belief(i, 0));
            numbers.add(belief(i, 1));
            numbers.add(driest(i, 0));
            numbers.add(driest(i, 1));
            numbers.add(driest(i, 2));
            numbers.add((long) buttered(i));
        }
        if (many() > 0) {
            numbers.add((long) judged());
        }
        for (char letter : page.toCharArray()) {
            numbers.add((long) letter);
        }
        for (int what = 0; what <= 8; what++) {
            numbers.add((long) count(what));
        }
        return Due.fold(numbers.stream().mapToLong(Long::longValue).toArray());
    }
}
