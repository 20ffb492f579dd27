/**
 * Each sentence of the document on laws, sights, repairs and kinds that names a boundary case,
 * under its own words.
 */
public final class LawEdgesTest {
    private static final int BAD = -1, FULL = -3, NONE = -9, NO = -1000000, NO_PART = -5;
    private static final int KEEL = 0, MOST = 1, MORE = 2, OLDEST = 3, HALF = 4;
    private static final int[] OUTSIDE = {Integer.MIN_VALUE, -256, -3, 256, Integer.MAX_VALUE};

    private static int wrong = 0;
    private static int sentences = 0;
    private static String sentence = "";

    private static void sentence(String words) {
        sentence = words;
        sentences++;
    }

    private static void due(String call, long got, long want) {
        if (got != want) {
            wrong++;
            System.out.println("\"" + sentence + "\": " + call + " answered " + got + ", due is " + want);
        }
    }

    private static WhoseShip told(String text) {
        WhoseShip x = new WhoseShip();
        for (int i = 0; i < text.length(); i++) {
            x.type(text.charAt(i));
        }
        due("port() of '" + text + "' (1: well told)", x.port() >= 0 ? 1 : 0, 1);
        return x;
    }

    /**
     * One ship, numbered 0, of these makes, with ages if any are given: it is built of spares, so
     * each make and each age can be in each place. All lives are 30.
     */
    private static WhoseShip shipOf(int[] weights, int[] makes, int... ages) {
        StringBuilder b = new StringBuilder("n" + makes.length + ";");
        for (int k = 0; k < makes.length; k++) {
            b.append("w").append(k).append(' ').append(weights[k]).append(";l").append(k).append(" 30;");
            b.append("y").append(k).append(' ').append(makes[k]).append(' ');
            b.append(ages.length == 0 ? 0 : ages[k]).append(';');
        }
        WhoseShip x = told(b.toString());
        due("build()", x.build(), 0);
        return x;
    }

    private static int[] row(int... numbers) {
        return numbers;
    }

    private static void is(int law, int want, int[] weights, int[] makes, int... ages) {
        String call = "is(0, " + law + ") of makes " + java.util.Arrays.toString(makes);
        due(call, shipOf(weights, makes, ages).is(0, law), want);
    }

    public static void main(String[] args) {
        keel();
        most();
        more();
        oldest();
        half();
        newIsNone();
        lawNumbers();
        twins();
        fair();
        becomesNothing();
        becomesFewest();
        becomesFirstRow();
        becomesByOldest();
        becomesOfTheYard();
        becomesNoneAndBad();
        stays();
        staysNone();
        share();
        decides();
        thief();
        thiefWithoutParts();
        seen();
        mayBe();
        leastSeen();
        leastSeenNone();
        repairs();
        repairsYear();
        rates();
        rateOfNone();
        trace();
        nothingIsChanged();
        System.out.println(wrong == 0 ? sentences + " sentences on laws hold" : wrong + " answers are not as due");
        if (wrong != 0) {
            System.exit(1);
        }
    }

    private static void keel() {
        sentence("0 KEEL: the MAKE of its PART in PLACE 0.");
        for (int m = 0; m <= 3; m++) {
            int other = (m + 1) % 4;
            is(KEEL, m, row(1, 9, 9, 9, 9, 9), row(m, other, other, other, other, other), 0, 9, 9, 9, 9, 9);
        }
        is(KEEL, NONE, row(9, 1), row(9, 0));
    }

    private static void most() {
        sentence("1 MOST: the MAKE whose PARTS in it weigh more than half of all WEIGHTS.");
        is(MOST, NONE, row(1, 1), row(0, 1));
        is(MOST, 0, row(2, 1), row(0, 1));
        is(MOST, 1, row(1, 2), row(0, 1));
        is(MOST, NONE, row(3, 2, 5), row(2, 2, 3));
        is(MOST, 2, row(3, 3, 5), row(2, 2, 3));
        is(MOST, 3, row(3, 2, 6), row(2, 2, 3));
        is(MOST, NONE, row(4, 3, 3), row(0, 1, 2));
        is(MOST, NONE, row(9, 9, 9, 9, 9, 9), row(3, 3, 3, 9, 9, 9));
        is(MOST, 3, row(9, 9, 9, 9, 9, 9), row(3, 3, 3, 3, 9, 9));
        is(MOST, NONE, row(9, 9, 9, 9, 9, 9), row(3, 3, 9, 9, 9, 9));
        is(MOST, 0, row(1, 1, 1, 1, 1, 1), row(0, 0, 0, 0, 0, 0));
    }

    private static void more() {
        sentence("2 MORE: the MAKE whose PARTS weigh more than those of any other one (9 is one, too).");
        is(MORE, NONE, row(1, 1), row(0, 1));
        is(MORE, NONE, row(1, 1), row(3, 2));
        is(MORE, 1, row(1, 2), row(0, 1));
        is(MORE, 2, row(4, 3, 3), row(2, 1, 0));
        is(MORE, 2, row(3, 3, 2, 2), row(2, 0, 1, 2));
        is(MORE, NONE, row(1, 2, 2), row(0, 1, 2));
        is(MORE, NONE, row(2, 2, 1), row(0, 3, 1));
        is(MORE, NONE, row(2, 2, 1), row(0, 9, 1));
        is(MORE, NONE, row(2, 3, 2), row(0, 9, 1));
        is(MORE, 0, row(3, 2, 2), row(0, 9, 1));
        is(MORE, 3, row(5, 2, 2), row(3, 9, 9));
        is(MORE, NONE, row(4, 2, 2), row(3, 9, 9));
        is(MORE, 3, row(1, 1, 1, 1, 1, 1), row(0, 1, 2, 9, 3, 3));
        is(MORE, NONE, row(1, 1), row(9, 9));
    }

    private static void oldest() {
        sentence("3 OLDEST: the MAKE of its oldest PART, of several that of the least PLACE.");
        is(OLDEST, 2, row(1, 1, 1), row(2, 1, 0), 0, 0, 0);
        is(OLDEST, 1, row(1, 1, 1), row(2, 1, 0), 0, 1, 0);
        is(OLDEST, 0, row(1, 1, 1), row(2, 1, 0), 0, 0, 1);
        is(OLDEST, 1, row(1, 1, 1), row(2, 1, 0), 0, 1, 1);
        is(OLDEST, 2, row(1, 1, 1), row(2, 1, 0), 30, 29, 30);
        is(OLDEST, 3, row(1, 1, 1, 1, 1, 1), row(0, 0, 0, 0, 0, 3), 29, 29, 29, 29, 29, 30);
        is(OLDEST, NONE, row(1, 1, 1), row(0, 9, 1), 0, 1, 1);
        is(OLDEST, 1, row(1, 1, 1), row(0, 1, 9), 0, 1, 1);
    }

    private static void half() {
        sentence("4 HALF THE NAILS: the least MAKE of whose PARTS there are as many as half of PLACES at least.");
        is(HALF, 0, row(1, 9), row(0, 1));
        is(HALF, 1, row(1, 9), row(1, 9));
        is(HALF, 2, row(1, 1), row(3, 2));
        is(HALF, NONE, row(9, 1, 1), row(0, 9, 9));
        is(HALF, 1, row(1, 1, 9), row(1, 1, 0));
        is(HALF, NONE, row(1, 1, 1), row(0, 1, 2));
        is(HALF, 3, row(1, 1, 9, 9), row(3, 3, 1, 0));
        is(HALF, 1, row(1, 1, 9, 9), row(3, 3, 1, 1));
        is(HALF, 3, row(1, 1, 9, 9), row(3, 3, 9, 9));
        is(HALF, NONE, row(1, 1, 1, 1), row(0, 1, 2, 3));
        is(HALF, NONE, row(1, 1, 1, 1, 1), row(2, 2, 9, 9, 9));
        is(HALF, 2, row(1, 1, 1, 1, 1), row(2, 2, 9, 9, 2));
        is(HALF, NONE, row(1, 1, 1, 1, 1, 1), row(3, 3, 1, 1, 9, 9));
        is(HALF, 3, row(1, 1, 1, 1, 1, 1), row(3, 3, 3, 1, 1, 9));
        is(HALF, 1, row(1, 1, 1, 1, 1, 1), row(3, 3, 3, 1, 1, 1));
    }

    private static void newIsNone() {
        sentence("(9: none, by all.)");
        WhoseShip x = shipOf(row(1, 1), row(9, 9));
        for (int law = 0; law < 5; law++) {
            due("is(0, " + law + ")", x.is(0, law), NONE);
        }
    }

    private static void lawNumbers() {
        sentence("What a SHIP IS by a LAW; NONE. BAD.");
        WhoseShip x = told("s1;s2;");
        for (int law = 0; law < 5; law++) {
            due("is(1, " + law + ")", x.is(1, law), 1);
        }
        due("is(0, -1)", x.is(0, -1), BAD);
        due("is(0, 5)", x.is(0, 5), BAD);
        due("is(2, 0)", x.is(2, 0), BAD);
        due("is(-1, 0)", x.is(-1, 0), BAD);
        for (int o : OUTSIDE) {
            due("is(" + o + ", 0)", x.is(o, 0), BAD);
            due("is(0, " + o + ")", x.is(0, o), BAD);
        }
        due("without ships", new WhoseShip().is(0, 0), BAD);
    }

    private static void twins() {
        sentence("TWINS by a LAW: the first two SHIPS (10 times the lesser and the other one) "
            + "that ARE one and the same; NONE.");
        due("without ships", new WhoseShip().twins(0), NONE);
        due("of one ship", told("s1;").twins(0), NONE);
        WhoseShip x = told("n2;s0;s1;s2;s3;y0 0 0;");
        x.replace(0, x.fresh(0));
        x.fresh(1);
        x.fresh(1);
        due("the fifth ship", x.build(), 4);
        due("none yet", x.twins(KEEL), NONE);
        due("the sixth ship", x.build(), 5);
        due("4 and 5, by keels of make 0", x.twins(KEEL), 45);
        due("that two are none is no twins", x.twins(MOST), NONE);
        x.replace(2, x.fresh(0));
        due("part 4 of ship 2 in ship 3", x.replace(3, 4), 6);
        due("2 is none, 3 is 2", x.twins(KEEL), 45);
        due("part 6 of ship 3 in ship 1", x.replace(1, 6), 2);
        due("1 is 3, 3 is 2", x.twins(KEEL), 45);
        due("part 2 of ship 1 in ship 0", x.replace(0, 2), 9);
        due("0 is 1", x.twins(KEEL), 45);
        x.replace(0, x.fresh(0));
        due("part 2 in ship 5", x.replace(5, 2), 8);
        due("part 8 in ship 1: as 4", x.replace(1, 8), 6);
        due("1 and 4", x.twins(KEEL), 14);
        due("part 6 in ship 0", x.replace(0, 6), 13);
        due("still 1 and 4, since 0 is 3", x.twins(KEEL), 14);
        due("twins(5)", x.twins(5), BAD);
        due("twins(-1)", x.twins(-1), BAD);
        WhoseShip y = told("n2;s0;s1;s2;y0 0 0;y0 0 0;");
        y.replace(2, 6);
        due("0 and 2", y.twins(KEEL), 2);
        y.replace(1, 7);
        due("0 and 1 come ahead of 0 and 2", y.twins(KEEL), 1);
    }

    private static void fair() {
        sentence("FAIR: LAWS (bits) by which there are no TWINS.");
        due("without ships", new WhoseShip().now(3), 31);
        WhoseShip x = told("n3;s0;s1;y0 0 0;y1 0 0;y2 0 5;");
        due("two ships as told", x.now(3), 31);
        x.replace(1, 6);
        // Ship 1 has makes 0, 1, 1, all of one age.
        due("by KEEL and OLDEST they are one", x.now(3), 31 - 1 - 8);
        x.undo();
        x.replace(1, 8);
        due("by OLDEST", x.now(3), 31 - 8);
        x.replace(1, 7);
        due("by all but KEEL", x.now(3), 1);
        x.replace(1, 6);
        due("by all", x.now(3), 0);
    }

    private static void becomes(WhoseShip x, int law, int make, int many, int... parts) {
        String call = "becomes(0, " + law + ", " + make + ", ";
        due(call + "-1)", x.becomes(0, law, make, -1), many);
        for (int k = 0; k < parts.length; k++) {
            due(call + k + ")", x.becomes(0, law, make, k), parts[k]);
        }
    }

    private static void becomesNothing() {
        sentence("so that it IS that");
        WhoseShip x = told("n6;s0;y0 0 0;y5 0 9;");
        for (int law = 0; law < 5; law++) {
            becomes(x, law, 0, 0, NO_PART, NO_PART, NO_PART, NO_PART, NO_PART, NO_PART);
        }
    }

    private static void becomesFewest() {
        sentence("the fewest PARTS of a SHIP to be REPLACED by such as lie in the YARD");
        // One heavy part in place 2 does what the light ones of places 0 and 1 do together.
        WhoseShip x = told("n3;w0 2;w1 2;w2 5;s0;y0 1 0;y1 1 0;y2 1 0;");
        becomes(x, MOST, 1, 1, NO_PART, NO_PART, 5);
        becomes(x, MORE, 1, 1, NO_PART, NO_PART, 5);
        becomes(x, HALF, 1, 2, NO_PART, 4, 5);
        becomes(x, KEEL, 1, 1, 3, NO_PART, NO_PART);
        // By HALF of six all of 0's must be fewer than three, and 1's three.
        WhoseShip y = told("n6;s0;y0 1 0;y1 1 0;y2 1 0;y3 1 0;y4 1 0;y5 1 0;");
        becomes(y, HALF, 1, 4, NO_PART, NO_PART, 8, 9, 10, 11);
        becomes(y, MOST, 1, 4, NO_PART, NO_PART, 8, 9, 10, 11);
        WhoseShip z = told("n2;s0;y0 1 0;y1 1 0;");
        becomes(z, MOST, 1, 2, 2, 3);
        becomes(z, HALF, 1, 2, 2, 3);
        // Make 1 can be the oldest in place 5 alone, and the five ahead, as old as it, must yield.
        WhoseShip w = told("n6;s0;y5 1 0;");
        w.year();
        due("as old is not older", w.becomes(0, OLDEST, 1, -1), NONE);
        for (int k = 0; k < 5; k++) {
            w.fresh(k);
        }
        becomes(w, OLDEST, 1, 6, 7, 8, 9, 10, 11, 6);
    }

    private static void becomesFirstRow() {
        sentence("of as few, the PART for PLACE 0 (none ahead of all, then by numbers), 1, .., the first row");
        WhoseShip x = told("n3;s0;y2 1 0;y2 1 0;y1 1 0;y1 1 0;y0 1 0;y0 1 0;");
        becomes(x, KEEL, 1, 1, 7, NO_PART, NO_PART);
        // Two of three places: none in place 0 stands ahead, though its part would do as well.
        becomes(x, MOST, 1, 2, NO_PART, 5, 3);
        becomes(x, MORE, 1, 2, NO_PART, 5, 3);
        becomes(x, HALF, 1, 2, NO_PART, 5, 3);
        x.replace(0, 5);
        becomes(x, MOST, 1, 1, NO_PART, NO_PART, 3);
        x.replace(0, 7);
        becomes(x, MOST, 1, 0, NO_PART, NO_PART, NO_PART);
        becomes(x, MOST, 0, 1, NO_PART, 1, NO_PART);
        becomes(x, KEEL, 0, 1, 0, NO_PART, NO_PART);
        // What takes the other's weight away may be of any make: the least number, then.
        WhoseShip y = told("n3;w0 4;w1 3;w2 3;s0;y0 1 0;y1 9 0;y1 2 0;y2 3 0;");
        becomes(y, MORE, 1, 2, 3, NO_PART, 6);
        y.replace(0, 6);
        becomes(y, MORE, 1, 1, 3, NO_PART, NO_PART);
        WhoseShip z = told("n2;w0 2;s0;y0 1 0;y1 9 0;y1 2 0;");
        becomes(z, KEEL, 1, 1, 2, NO_PART);
        becomes(z, HALF, 1, 2, 2, 3);
    }

    private static void becomesByOldest() {
        sentence("3 OLDEST: the MAKE of its oldest PART, of several that of the least PLACE (BECOMES)");
        WhoseShip x = told("n2;l0 30;l1 30;s0;y1 1 1;y1 1 1;y0 1 0;");
        // Part 4 in place 0 would do too, by the least place, but none stands ahead of it.
        becomes(x, OLDEST, 1, 1, NO_PART, 2);
        WhoseShip y = told("n2;l0 30;l1 30;s0;y1 1 0;y0 1 0;y0 1 4;");
        // As old in place 1 is not older: only place 0 does, by the least number.
        becomes(y, OLDEST, 1, 1, 3, NO_PART);
        // Places 0 and 1 hold older ones: both must yield, place 0 to one that is younger than 6.
        WhoseShip z = shipOf(row(1, 1, 1), row(0, 0, 1), 9, 7, 6);
        z.fresh(0);
        z.fresh(0);
        z.fresh(1);
        becomes(z, OLDEST, 1, 2, 3, 5, NO_PART);
        becomes(z, OLDEST, 0, 0, NO_PART, NO_PART, NO_PART);
        for (int i = 0; i < 6; i++) {
            z.year();
        }
        // All are six years older, and differ by as much.
        becomes(z, OLDEST, 1, 2, 3, 5, NO_PART);
        due("no 2 and no 3", z.becomes(0, OLDEST, 2, -1) + z.becomes(0, OLDEST, 3, -1), 2 * NONE);
        // In a place behind, as old is young enough; in one ahead, it is not.
        WhoseShip w = told("n3;l0 30;l1 30;l2 30;s0;y0 9 5;y1 1 5;y2 9 5;");
        becomes(w, OLDEST, 1, 1, NO_PART, 4, NO_PART);
        w.replace(0, 5);
        becomes(w, OLDEST, 1, 1, NO_PART, 4, NO_PART);
        w.replace(0, 3);
        becomes(w, OLDEST, 1, 2, 0, 4, NO_PART);
        // All are new, the old ones lie in the yard: that of place 1 leaves place 0 as it is.
        WhoseShip v = told("n2;s0;");
        v.year();
        v.replace(0, v.fresh(0));
        v.replace(0, v.fresh(1));
        becomes(v, OLDEST, 0, 1, NO_PART, 1);
    }

    private static void becomesOfTheYard() {
        sentence("by such as lie in the YARD");
        WhoseShip x = told("n2;l0 2;s0;s1;y0 1 0;");
        becomes(x, KEEL, 1, 1, 4, NO_PART);
        x.year();
        becomes(x, KEEL, 1, 1, 4, NO_PART);
        x.year();
        due("part 4 is nowhere", x.part(4, 3), 9);
        becomes(x, KEEL, 1, NONE, NONE, NONE);
        due("part 2 comes from the other ship", x.replace(1, x.fresh(0)), 2);
        becomes(x, KEEL, 1, 1, 2, NO_PART);
        x.replace(0, 2);
        becomes(x, KEEL, 1, 0, NO_PART, NO_PART);
        becomes(x, KEEL, 0, 1, 0, NO_PART);
        WhoseShip y = told("n2;s0;s1;s2;y0 0 0;y1 2 3;");
        due("ship 1 is 1's", y.becomes(1, KEEL, 1, -1), 0);
        due("ship 1 becomes 0's", y.becomes(1, KEEL, 0, 0), 6);
        due("ship 2 becomes 2's by nothing", y.becomes(2, OLDEST, 2, -1), 0);
        due("ship 1 becomes 2's", y.becomes(1, OLDEST, 2, 1), 7);
        due("ship 2 does not become 1's", y.becomes(2, KEEL, 1, -1), NONE);
    }

    private static void becomesNoneAndBad() {
        sentence("BECOMES (make 0 .. 3): how many (k = -1), the PART for a PLACE (-5: none); NONE. BAD.");
        WhoseShip x = told("n2;s0;y0 9 0;y1 9 0;");
        for (int law = 0; law < 5; law++) {
            for (int make = 1; make <= 3; make++) {
                becomes(x, law, make, NONE, NONE, NONE);
            }
        }
        for (int make : new int[] {-1, 4, 8, 9, 10}) {
            due("make " + make, x.becomes(0, 0, make, -1), BAD);
        }
        due("place -2", x.becomes(0, 0, 0, -2), BAD);
        due("place -5", x.becomes(0, 0, 0, -5), BAD);
        due("place 2", x.becomes(0, 0, 0, 2), BAD);
        due("place 2, where there is no way", x.becomes(0, 0, 1, 2), BAD);
        due("law -1", x.becomes(0, -1, 0, -1), BAD);
        due("law 5", x.becomes(0, 5, 0, -1), BAD);
        due("ship -1", x.becomes(-1, 0, 0, -1), BAD);
        due("ship 1", x.becomes(1, 0, 0, -1), BAD);
    }

    private static void stays() {
        sentence("STAYS by a LAW: how many YEARS (to 40) it IS what it is, if each YEAR all that is ROTTEN in it "
            + "is replaced by NEW ones at once");
        for (int life = 1; life <= 30; life++) {
            WhoseShip x = told("n2;l0 " + life + ";l1 30;s0;");
            due("KEEL, life " + life, x.stays(0, KEEL), life);
            due("MOST, life " + life, x.stays(0, MOST), life);
            due("HALF, till both are new", x.stays(0, HALF), 30);
        }
        WhoseShip y = told("n2;l0 5;l1 3;s0;y0 1 3;y0 1 4;y0 1 5;y0 1 30;");
        int[] left = {2, 1, 1, 1};
        for (int i = 0; i < 4; i++) {
            y.replace(0, 2 + i);
            due("part " + (2 + i) + " in place 0", y.stays(0, KEEL), left[i]);
        }
        sentence("behind how many it IS something else (or none)");
        // Place 0 is new behind 2 years, and make 1 in place 1 the oldest then.
        WhoseShip z = told("n2;l0 2;s0;y1 1 0;");
        z.replace(0, 2);
        due("OLDEST, something else", z.stays(0, OLDEST), 2);
        // 0 has half, and hides 1, till place 0 is new.
        due("HALF, something else", z.stays(0, HALF), 2);
        due("KEEL, none", z.stays(0, KEEL), 2);
        // New ones rot, too, and are made new again, by which nothing comes about.
        WhoseShip w = told("n3;l0 1;l1 4;l2 30;w2 9;s0;");
        due("MOST, till the heaviest is new", w.stays(0, MOST), 30);
        due("MORE, till the heaviest is new", w.stays(0, MORE), 30);
        due("HALF, till two are new", w.stays(0, HALF), 4);
    }

    private static void staysNone() {
        sentence("NONE (also if it IS none now)");
        WhoseShip x = shipOf(row(1, 1), row(9, 1));
        due("KEEL is none", x.stays(0, KEEL), NONE);
        due("MOST is none", x.stays(0, MOST), NONE);
        due("MORE is none", x.stays(0, MORE), NONE);
        due("OLDEST is none", x.stays(0, OLDEST), NONE);
        due("HALF is 1", x.stays(0, HALF), 30);
        sentence("STAYS; NONE. BAD.");
        due("law -1", x.stays(0, -1), BAD);
        due("law 5", x.stays(0, 5), BAD);
        due("ship -1", x.stays(-1, 0), BAD);
        due("ship 1", x.stays(1, 0), BAD);
    }

    private static void fraction(WhoseShip x, int make, int upper, int lower) {
        due("share(0, " + make + ", 0)", x.share(0, make, 0), upper);
        due("share(0, " + make + ", 1)", x.share(0, make, 1), lower);
    }

    private static void share() {
        sentence("SHARE: upper (what = 0), lower number (1), in least terms. BAD.");
        WhoseShip x = shipOf(row(1, 2, 3, 9, 9, 6), row(0, 1, 2, 3, 9, 9));
        fraction(x, 0, 1, 30);
        fraction(x, 1, 1, 15);
        fraction(x, 2, 1, 10);
        fraction(x, 3, 3, 10);
        fraction(x, 9, 1, 2);
        WhoseShip y = shipOf(row(9, 9, 9, 9, 9, 9), row(3, 3, 3, 3, 3, 3));
        fraction(y, 3, 1, 1);
        for (int make : new int[] {0, 1, 2, 9}) {
            fraction(y, make, 0, 1);
        }
        fraction(shipOf(row(5, 2), row(0, 1)), 0, 5, 7);
        for (int make : new int[] {-1, 4, 5, 6, 7, 8, 10}) {
            due("make " + make, y.share(0, make, 0), BAD);
        }
        due("what -1", y.share(0, 0, -1), BAD);
        due("what 2", y.share(0, 0, 2), BAD);
        due("ship -1", y.share(-1, 0, 0), BAD);
        due("ship 1", y.share(1, 0, 0), BAD);
    }

    private static void decides() {
        sentence("PLACES (bits) in each of which a NEW PART alone would make it IS something else");
        WhoseShip x = shipOf(row(1, 1), row(0, 0));
        due("KEEL", x.decides(0, KEEL), 1);
        due("MOST: half is not more than half", x.decides(0, MOST), 3);
        due("MORE: a tie", x.decides(0, MORE), 3);
        due("OLDEST: new is as old, place 0 is the least", x.decides(0, OLDEST), 1);
        due("HALF: one of two is half", x.decides(0, HALF), 0);
        x.year();
        due("OLDEST: the new one is younger now", x.decides(0, OLDEST), 0);
        WhoseShip y = shipOf(row(1, 1, 1, 1, 1, 1), row(9, 0, 9, 0, 9, 0), 1, 2, 2, 3, 3, 1);
        due("KEEL: it is none, and stays none", y.decides(0, KEEL), 0);
        due("HALF: each of three of six", y.decides(0, HALF), 42);
        due("OLDEST: place 3, for 4 is as old", y.decides(0, OLDEST), 8);
        WhoseShip z = shipOf(row(2, 1, 1), row(1, 0, 0));
        due("MORE: it is none, and would be 1's", z.decides(0, MORE), 6);
        due("HALF: 0 has two of three", z.decides(0, HALF), 6);
        WhoseShip w = told("n6;s0;");
        for (int p = 6; p < 48; p++) {
            w.fresh(0);
        }
        due("no part more can come", w.fresh(0), FULL);
        due("a new one would, all the same", w.decides(0, KEEL), 1);
        due("a new one would, all the same", w.stays(0, KEEL), 9);
        sentence("DECIDES, as bits. BAD.");
        due("law -1", w.decides(0, -1), BAD);
        due("law 5", w.decides(0, 5), BAD);
        due("ship -1", w.decides(-1, 0), BAD);
        due("ship 1", w.decides(1, 0), BAD);
    }

    private static void thief(WhoseShip x, int law, long upper, long lower) {
        due("thief(0, " + law + ", 0)", x.thief(0, law, 0), upper);
        due("thief(0, " + law + ", 1)", x.thief(0, law, 1), lower);
    }

    private static void thief() {
        sentence("by night one PLACE of a SHIP, each alike likely, is REPLACED by one of that PLACE in the YARD, "
            + "each alike likely");
        WhoseShip x = told("n3;s0;y2 9 0;y0 0 0;y0 9 0;y1 0 0;y1 9 0;y1 9 0;");
        due("a new one in place 2", x.replace(0, 3), 2);
        x.fresh(2);
        // Two of three are 0's: place 0 keeps it by 1 of 2, place 1 by 1 of 3, place 2 by each.
        thief(x, MOST, 11, 18);
        thief(x, HALF, 11, 18);
        thief(x, KEEL, 5, 6);
        WhoseShip y = told("n2;s0;y0 1 0;y1 1 5;");
        thief(y, OLDEST, 0, 1);
        thief(y, HALF, 1, 1);
        // Part 0 alone lies in the yard, and makes what is none 0's.
        WhoseShip w = told("n2;s0;y0 9 0;");
        w.replace(0, 2);
        thief(w, KEEL, 1, 2);
        WhoseShip z = told("n6;s0;");
        for (int p = 6; p < 48; p++) {
            z.fresh(p % 6);
        }
        // Seven new ones of each place: KEEL goes by place 0 alone.
        thief(z, KEEL, 5, 6);
        thief(z, MOST, 1, 1);
        z.replace(0, 10);
        z.replace(0, 11);
        // 0 in four of six: it is lost by a new one in each of these, and kept in the other two.
        due("it is 0's", z.is(0, MOST), 0);
        thief(z, MOST, 1, 3);
        z.replace(0, 9);
        // None by MOST; 0's old part in one of three places makes it 0's again, by 1 of 7 each.
        due("it is none", z.is(0, MOST), NONE);
        thief(z, MOST, 13, 14);
        sentence("THIEF: upper (what = 0), lower number (1), in least terms. BAD.");
        due("what -1", z.thief(0, 0, -1), BAD);
        due("what 2", z.thief(0, 0, 2), BAD);
        due("law -1", z.thief(0, -1, 0), BAD);
        due("law 5", z.thief(0, 5, 0), BAD);
        due("ship -1", z.thief(-1, 0, 0), BAD);
        due("ship 1", z.thief(1, 0, 0), BAD);
    }

    private static void thiefWithoutParts() {
        sentence("(if none lies there, nothing comes of it)");
        WhoseShip x = told("n3;l0 1;s0;");
        for (int law = 0; law < 5; law++) {
            thief(x, law, 1, 1);
        }
        x.fresh(0);
        thief(x, KEEL, 2, 3);
        due("that one is lost", x.year(), 1);
        thief(x, KEEL, 1, 1);
        x.fresh(1);
        thief(x, KEEL, 1, 1);
    }

    private static void seen() {
        sentence("SEEN (6 at most): in a PLACE a PART of a MAKE (0 .. 3, 9).");
        WhoseShip x = told("n6;s0;");
        int[] makes = {0, 1, 2, 3, 9, 0};
        for (int i = 0; i < 6; i++) {
            due("saw(" + i + ", " + makes[i] + ")", x.saw(i, makes[i]), i + 1);
        }
        due("a seventh", x.saw(0, 0), FULL);
        due("seen", x.count(3), 6);
        sentence("SEEN: how much there is. BAD; FULL.");
        due("a seventh of no place", x.saw(6, 0), BAD);
        due("a seventh of no make", x.saw(0, 8), BAD);
        due("forget()", x.forget(), 6);
        for (int make : new int[] {-1, 4, 5, 6, 7, 8, 10}) {
            due("make " + make, x.saw(0, make), BAD);
        }
        due("place -1", x.saw(-1, 0), BAD);
        due("place 6", x.saw(6, 0), BAD);
        due("seen", x.count(3), 0);
        sentence("Nothing was SEEN: how much there was.");
        due("forget() of nothing", x.forget(), 0);
        due("saw", x.saw(0, 3), 1);
        due("it can't be", x.mayBe(), 0);
        due("forget() of one", x.forget(), 1);
        due("it may be", x.mayBe(), 1);
        due("forget() again", x.forget(), 0);
    }

    private static void mayBe() {
        sentence("MAY BE: SHIPS (bits) that are as SEEN now.");
        due("without ships", new WhoseShip().mayBe(), 0);
        WhoseShip x = told("n2;s0;s1;s2;s3;");
        for (int s = 4; s < 6; s++) {
            x.fresh(0);
            x.fresh(1);
            x.build();
        }
        due("nothing seen: all six", x.mayBe(), 63);
        x.saw(0, 9);
        due("new in place 0", x.mayBe(), 48);
        x.saw(0, 9);
        due("the same twice", x.mayBe(), 48);
        due("part 2 in ship 0", x.replace(1, x.fresh(0)), 2);
        due("as they are now", x.mayBe(), 50);
        x.saw(1, 1);
        due("and make 1 in place 1", x.mayBe(), 2);
        x.undo();
        due("undone", x.mayBe(), 0);
        x.forget();
        x.saw(1, 3);
        due("make 3 in place 1", x.mayBe(), 8);
        x.saw(1, 2);
        due("and make 2 in the same place", x.mayBe(), 0);
    }

    private static void leastSeen() {
        sentence("LEAST SEEN: the fewest PLACES (bits, of as few the least) whose MAKES, if SEEN, "
            + "tell a SHIP from all others");
        WhoseShip x = told("n6;s0;");
        due("one ship: nothing need be seen", x.leastSeen(0), 0);
        WhoseShip y = told("n6;s0;s1;s2;");
        due("any place tells: the least", y.leastSeen(2), 1);
        // Ships of new parts; ship k has one of make 0 in place k alone, ship 5 none.
        WhoseShip z = told("n5;y0 0 0;y1 0 0;y2 0 0;y3 0 0;y4 0 0;");
        due("all of make 0", z.build(), 0);
        for (int s = 1; s < 6; s++) {
            for (int k = 0; k < 5; k++) {
                z.fresh(k);
            }
            due("all new", z.build(), s);
        }
        for (int k = 1; k < 5; k++) {
            z.replace(0, z.fresh(k));
            z.replace(k, k);
        }
        for (int k = 0; k < 5; k++) {
            due("ship " + k + " by its own place", z.leastSeen(k), 1 << k);
        }
        due("all five places", z.leastSeen(5), 31);
        // Two places: 0 and 2 tell as well as 1 and 2, and have the lesser bits.
        WhoseShip w = told("n3;s0;s1;s2;y0 0 0;y1 0 0;y2 0 0;");
        w.replace(1, 9);
        w.replace(1, 10);
        w.replace(2, 11);
        due("places 0 and 2", w.leastSeen(0), 5);
        due("place 2 tells ship 1", w.leastSeen(1), 4);
        due("place 0 tells ship 2", w.leastSeen(2), 1);
        // Places 0 and 1 together tell, and have lesser bits than place 2; but that alone tells, too.
        WhoseShip v = told("n3;s0;s1;s2;y1 0 0;y0 0 0;");
        v.replace(1, 9);
        v.replace(2, 10);
        due("one place ahead of two", v.leastSeen(0), 4);
    }

    private static void leastSeenNone() {
        sentence("LEAST SEEN, as bits; NONE. BAD.");
        WhoseShip x = told("n2;s0;s1;y0 0 9;y1 0 0;");
        due("build()", x.build(), 2);
        due("ship 0 is as ship 2, but for ages", x.leastSeen(0), NONE);
        due("ship 2 is as ship 0", x.leastSeen(2), NONE);
        due("ship 1 is not", x.leastSeen(1), 1);
        due("ship 3", x.leastSeen(3), BAD);
        due("ship -1", x.leastSeen(-1), BAD);
        due("without ships", new WhoseShip().leastSeen(0), BAD);
        x.saw(0, 3);
        due("what was seen is not asked", x.leastSeen(1), 1);
    }

    private static void repairs(WhoseShip x, int years, int many, int year) {
        due("repairs(0, " + years + ", 0)", x.repairs(0, years, 0), many);
        due("repairs(0, " + years + ", 1)", x.repairs(0, years, 1), year);
    }

    private static void repairs() {
        sentence("REPAIRS of a SHIP for n (0 .. 40) YEARS: how often a PART is ROTTEN, "
            + "if it is made NEW at once each time");
        WhoseShip x = told("n6;l0 1;l1 1;l2 1;l3 1;l4 1;l5 1;s0;");
        repairs(x, 0, 0, NONE);
        repairs(x, 1, 6, 1);
        repairs(x, 39, 234, 1);
        repairs(x, 40, 240, 1);
        WhoseShip y = told("n2;l0 30;l1 30;s0;y0 9 29;y0 9 30;y0 9 1;");
        repairs(y, 29, 0, NONE);
        repairs(y, 30, 2, 30);
        repairs(y, 40, 2, 30);
        y.replace(0, 2);
        repairs(y, 1, 1, 1);
        repairs(y, 30, 2, 1);
        repairs(y, 31, 3, 1);
        y.replace(0, 3);
        // Rotten now already: it is made new when the first year is over.
        repairs(y, 0, 0, NONE);
        repairs(y, 1, 1, 1);
        y.replace(0, 4);
        repairs(y, 28, 0, NONE);
        repairs(y, 29, 1, 29);
        repairs(y, 30, 2, 29);
        sentence("REPAIRS: how often (what = 0), the YEAR (1); NONE. BAD.");
        due("41 years", y.repairs(0, 41, 0), BAD);
        due("-1 years", y.repairs(0, -1, 0), BAD);
        due("what -1", y.repairs(0, 0, -1), BAD);
        due("what 2", y.repairs(0, 0, 2), BAD);
        due("ship -1", y.repairs(-1, 0, 0), BAD);
        due("ship 1", y.repairs(1, 0, 0), BAD);
    }

    private static void repairsYear() {
        sentence("the YEAR (from NOW) in which most are, of several the first; NONE (none are)");
        WhoseShip x = told("n3;l0 8;l1 5;l2 10;s0;");
        repairs(x, 4, 0, NONE);
        repairs(x, 5, 1, 5);
        repairs(x, 9, 2, 5);
        repairs(x, 10, 4, 10);
        repairs(x, 39, 14, 10);
        repairs(x, 40, 17, 40);
        x.year();
        // A year on it comes a year sooner, counted from now.
        repairs(x, 3, 0, NONE);
        repairs(x, 4, 1, 4);
        repairs(x, 9, 4, 9);
        repairs(x, 39, 17, 39);
    }

    private static void rates() {
        sentence("PART its AGE (1). KEEL up, and the WEIGHT of its PLACE (10). BORROWED up less its LIFE (100). "
            + "MAST twice up (1000). SHARED up, and its MAKE (10000). "
            + "FORGED up, and how many PARTS lie in the YARD (100000).");
        WhoseShip x = told("n2;w1 9;l1 30;s0;y1 9 30;y1 3 4;");
        int[] ofThree = {4, 13, -26, 26, -23, 6};
        int[] marks = {1, 11, 101, 1011, 10101, 100001};
        long trace = 0;
        for (int kind = 0; kind < 6; kind++) {
            due("rate(" + kind + ", 3)", x.rate(kind, 3), ofThree[kind]);
            trace += marks[kind];
            due("trace()", x.trace(), trace);
        }
        due("BORROWED, as low as can be", x.rate(2, 1), -30);
        x.replace(0, 2);
        for (int i = 0; i < 99; i++) {
            x.year();
        }
        due("nothing lies in the yard", x.now(1), 0);
        int[] ofTwo = {129, 138, 99, 276, 108, 129};
        for (int kind = 0; kind < 6; kind++) {
            due("rate(" + kind + ", 2)", x.rate(kind, 2), ofTwo[kind]);
        }
        due("the weight is of its place", x.rate(1, 0), 100);
        due("the life is of its place", x.rate(2, 0), 90);
    }

    private static void rateOfNone() {
        sentence("RATE. NO: BAD (one that is nowhere, too).");
        WhoseShip x = told("n2;l0 1;s0;y0 1 0;");
        due("rate of one in the yard", x.rate(0, 2), 0);
        x.year();
        long trace = x.trace();
        for (int kind = 0; kind < 6; kind++) {
            due("one that is nowhere", x.rate(kind, 2), NO);
        }
        due("kind -1", x.rate(-1, 0), NO);
        due("kind 6", x.rate(6, 0), NO);
        due("part -1", x.rate(0, -1), NO);
        due("part 3", x.rate(0, 3), NO);
        due("no part at all", new WhoseShip().rate(0, 0), NO);
        due("the trace is as it was", x.trace(), trace);
        due("a rotten one in a ship is somewhere", x.rate(0, 0), 1);
        due("undo(): it lies in the yard again", x.undo(), 0);
        due("rate of it", x.rate(0, 2), 0);
    }

    private static void trace() {
        sentence("THE TRACE, 0 at first");
        WhoseShip x = new WhoseShip();
        due("trace()", x.trace(), 0);
        x.fresh(0);
        due("rate(4, 0)", x.rate(4, 0), 0);
        due("trace()", x.trace(), 10101);
        x.undo();
        due("behind undo()", x.trace(), 10101);
        x.keep(0);
        x.back(0);
        due("behind back()", x.trace(), 10101);
        WhoseShip y = told("s0;");
        for (int i = 0; i < 400; i++) {
            y.rate(5, i % 3);
        }
        due("400 times FORGED", y.trace(), 40000400L);
    }

    private static String look(WhoseShip x) {
        StringBuilder b = new StringBuilder();
        for (int i = 0; i < 5; i++) {
            b.append(x.count(i)).append(' ').append(x.now(i)).append(' ');
        }
        for (int p = 0; p < x.count(2); p++) {
            b.append(x.part(p, 1)).append(' ').append(x.part(p, 2)).append(' ').append(x.part(p, 3)).append(' ');
        }
        return b.append(x.mayBe()).append(' ').append(x.trace()).toString();
    }

    private static void nothingIsChanged() {
        sentence("(Nothing is changed.)");
        WhoseShip x = told("n3;l0 2;s0;s1;y0 1 1;y1 9 4;y2 1 0;");
        x.replace(0, 7);
        x.saw(0, 1);
        String before = look(x);
        for (int law = 0; law < 5; law++) {
            x.is(0, law);
            x.twins(law);
            for (int make = 0; make < 4; make++) {
                x.becomes(0, law, make, 0);
            }
            x.stays(1, law);
            x.decides(1, law);
            x.thief(0, law, 1);
        }
        x.share(0, 9, 1);
        x.leastSeen(0);
        x.mayBe();
        x.repairs(0, 40, 1);
        due("nothing is changed (1)", before.equals(look(x)) ? 1 : 0, 1);
        due("undo() of replace()", x.undo(), 0);
    }
}
