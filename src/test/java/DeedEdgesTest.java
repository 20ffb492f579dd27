import java.util.ArrayDeque;
import java.util.Deque;

/**
 * Each sentence of the document on what is done, undone, kept and refused that names a boundary
 * case, under its own words.
 */
public final class DeedEdgesTest {
    private static final int BAD = -1, STATE = -2, FULL = -3, NONE = -9, NO = -1000000;
    private static final int IN_YARD = 8, NOWHERE = 9;
    private static final int[] OUTSIDE = {Integer.MIN_VALUE, -256, -3, 256, Integer.MAX_VALUE};

    private static int wrong = 0;
    private static int sentences = 0;
    private static String sentence = "";

    private static void sentence(String words) {
        sentence = words;
        sentences++;
    }

    private static void due(String call, long got, long want) {
        if (got != want) {
            wrong++;
            System.out.println("\"" + sentence + "\": " + call + " answered " + got + ", due is " + want);
        }
    }

    private static void same(String what, String before, String after) {
        due(what + " (1: as before)", before.equals(after) ? 1 : 0, 1);
    }

    private static int tell(WhoseShip x, String text) {
        for (int i = 0; i < text.length(); i++) {
            x.type(text.charAt(i));
        }
        return x.port();
    }

    private static WhoseShip told(String text) {
        WhoseShip x = new WhoseShip();
        due("port() of '" + text + "' (1: well told)", tell(x, text) >= 0 ? 1 : 0, 1);
        return x;
    }

    /** NOW: the year, parts, where each is, ships. */
    private static String now(WhoseShip x) {
        StringBuilder b = new StringBuilder();
        b.append(x.now(0)).append(' ').append(x.count(1)).append(' ').append(x.count(2)).append(' ');
        for (int p = 0; p < x.count(2); p++) {
            for (int w = 0; w < 4; w++) {
                b.append(x.part(p, w)).append(' ');
            }
        }
        for (int s = 0; s < x.count(1); s++) {
            b.append(x.ship(s, 0)).append(' ');
            for (int k = 0; k < x.count(0); k++) {
                b.append(x.inPlace(s, k)).append(' ');
            }
        }
        return b.toString();
    }

    /** NOW, and all else that a call could change. */
    private static String all(WhoseShip x) {
        StringBuilder b = new StringBuilder(now(x));
        for (int i = 0; i < 5; i++) {
            b.append(x.count(i)).append(' ').append(x.now(i)).append(' ');
        }
        return b.append(x.mayBe()).append(' ').append(x.trace()).toString();
    }

    public static void main(String[] args) {
        newObject();
        replaced();
        replaceState();
        replaceBad();
        fresh();
        freshFull();
        built();
        builtOfLeastNumbers();
        buildState();
        buildFull();
        years();
        allAreOlder();
        lost();
        rotten();
        rottenShips();
        undone();
        tenAreKnown();
        undoState();
        undoIsOfFourCalls();
        undonePartsAreNone();
        sixShipsOfSixPlaces();
        fortyEightParts();
        imagesKeepNow();
        imagesKeepNothingElse();
        nothingUndoneBehindBack();
        imagesBadAndState();
        refusedInOrder();
        refusedChangesNothing();
        counts();
        System.out.println(wrong == 0 ? sentences + " sentences on deeds hold" : wrong + " answers are not as due");
        if (wrong != 0) {
            System.exit(1);
        }
    }

    private static void newObject() {
        sentence("As told; no SHIPS, nothing in the YARD.");
        WhoseShip x = new WhoseShip();
        due("ships", x.count(1), 0);
        due("ship 0", x.ship(0, 0), BAD);
        due("parts", x.count(2), 0);
        due("part 0", x.part(0, 0), BAD);
        due("in the yard", x.now(1), 0);
        due("in the yard, of place 2", x.place(2, 2), 0);
        due("seen", x.count(3), 0);
        due("letters", x.count(4), 0);
        due("the year", x.now(0), 0);
        due("to be undone", x.now(4), 0);
        due("build()", x.build(), STATE);
        due("replace(0, 0)", x.replace(0, 0), BAD);
        due("year() without anything", x.year(), 0);
        due("undo()", x.undo(), 0);
        due("keep(0) of nothing", x.keep(0), 0);
        due("a new part", x.fresh(2), 0);
        due("back(0) to nothing", x.back(0), 0);
        due("parts", x.count(2), 0);
        due("two objects are two", new WhoseShip().now(0) + x.year(), 0);
    }

    private static void replaced() {
        sentence("in a SHIP the PART of a PLACE by one of that PLACE that lies in the YARD: the old one lies there then");
        WhoseShip x = told("n2;s1;s2;y1 3 1;");
        due("replace(1, 4)", x.replace(1, 4), 3);
        due("in place 1 of ship 1", x.inPlace(1, 1), 4);
        due("in place 0 of ship 1", x.inPlace(1, 0), 2);
        due("in place 1 of ship 0", x.inPlace(0, 1), 1);
        due("where the new one is", x.part(4, 3), 1);
        due("where the old one is", x.part(3, 3), IN_YARD);
        due("in the yard", x.now(1), 1);
        due("the old one in another ship", x.replace(0, 3), 1);
        due("it is there", x.part(3, 3), 0);
        due("back again", x.replace(1, 1), 4);
        due("and back", x.replace(1, 4), 1);
        due("in the yard", x.now(1) * 10 + x.place(1, 2), 11);
    }

    private static void replaceState() {
        sentence("STATE: that does not lie in the YARD.");
        WhoseShip x = told("n2;l1 1;s1;s2;y1 3 0;y0 9 0;");
        String before = all(x);
        due("by its own part", x.replace(0, 1), STATE);
        due("by another ship's", x.replace(0, 3), STATE);
        same("refused", before, all(x));
        due("year()", x.year(), 1);
        due("a lost one", x.part(4, 3), NOWHERE);
        before = all(x);
        due("by a lost one", x.replace(0, 4), STATE);
        same("refused", before, all(x));
        due("by one that lies there", x.replace(0, 5), 0);
        due("by the same one again", x.replace(0, 5), STATE);
        due("by the same one, in another ship", x.replace(1, 5), STATE);
    }

    private static void replaceBad() {
        sentence("BAD (no SHIP, no PART)");
        WhoseShip x = told("n2;s1;y0 3 1;");
        String before = all(x);
        due("ship -1", x.replace(-1, 2), BAD);
        due("ship 1", x.replace(1, 2), BAD);
        due("part -1", x.replace(0, -1), BAD);
        due("part 3", x.replace(0, 3), BAD);
        due("no ship, and a part that does not lie there", x.replace(1, 0), BAD);
        for (int o : OUTSIDE) {
            due("ship " + o, x.replace(o, 2), BAD);
            due("part " + o, x.replace(0, o), BAD);
        }
        same("refused", before, all(x));
        due("replace(0, 2)", x.replace(0, 2), 0);
        due("a part, but no ships at all", told("y0 3 1;").replace(0, 0), BAD);
    }

    private static void fresh() {
        sentence("NEW: a PART of a PLACE, MAKE 9, AGE 0, comes to the YARD.");
        WhoseShip x = told("n2;s1;");
        x.year();
        due("fresh(0)", x.fresh(0), 2);
        due("fresh(1)", x.fresh(1), 3);
        for (int p = 2; p < 4; p++) {
            due("place", x.part(p, 0), p - 2);
            due("make", x.part(p, 1), 9);
            due("age", x.part(p, 2), 0);
            due("where", x.part(p, 3), IN_YARD);
        }
        due("in the yard", x.now(1), 2);
        due("fresh(2)", x.fresh(2), BAD);
        due("fresh(-1)", x.fresh(-1), BAD);
        for (int o : OUTSIDE) {
            due("fresh(" + o + ")", x.fresh(o), BAD);
        }
        due("parts", x.count(2), 4);
    }

    private static void freshFull() {
        sentence("NEW: its number. BAD; FULL: 48.");
        WhoseShip x = told("n2;l0 1;s1;");
        for (int p = 2; p < 47; p++) {
            due("fresh(0)", x.fresh(0), p);
        }
        due("all in the yard are lost", x.year(), 45);
        due("the 48th", x.fresh(1), 47);
        due("a 49th, though 45 are nowhere", x.fresh(1), FULL);
        due("a 49th of no place", x.fresh(2), BAD);
        due("parts", x.count(2), 48);
        due("to be undone", x.now(4), 10);
        due("replace() goes on", x.replace(0, 47), 1);
        due("undo()", x.undo(), 9);
        due("undo() of the 48th", x.undo(), 8);
        due("parts", x.count(2), 47);
        due("there is no 48th", x.part(47, 0), BAD);
        due("another 48th", x.fresh(0), 47);
        due("its place", x.part(47, 0), 0);
    }

    private static void built() {
        sentence("a SHIP more (6 in all at most) of PARTS that lie in the YARD");
        WhoseShip x = told("n2;l0 1;s1;y0 2 30;y1 3 0;");
        due("build()", x.build(), 1);
        due("ships", x.count(1), 2);
        due("place 0, of more than its life", x.inPlace(1, 0), 2);
        due("place 1", x.inPlace(1, 1), 3);
        due("where they are", x.part(2, 3) * 10 + x.part(3, 3), 11);
        due("in the yard", x.now(1), 0);
        due("its owner", x.ship(1, 0), 9);
        due("what it is by KEEL", x.is(1, 0), 2);
        WhoseShip y = new WhoseShip();
        for (int s = 0; s < 6; s++) {
            for (int k = 0; k < 3; k++) {
                due("fresh(" + k + ")", y.fresh(k), 3 * s + k);
            }
            due("build() without told ships", y.build(), s);
            due("owner", y.ship(s, 0), 9);
            due("where its last part is", y.part(3 * s + 2, 3), s);
        }
    }

    private static void builtOfLeastNumbers() {
        sentence("of each PLACE the one with the least number; its OWNER is 9");
        WhoseShip x = told("n2;s1;y1 3 0;y0 2 0;y0 1 5;y1 1 0;");
        // Parts 0 and 1 come to the yard, and 2 and 3 leave it.
        x.replace(0, 3);
        x.replace(0, 2);
        due("build()", x.build(), 1);
        due("place 0", x.inPlace(1, 0), 0);
        due("place 1", x.inPlace(1, 1), 1);
        due("build()", x.build(), 2);
        due("place 0", x.inPlace(2, 0), 4);
        due("place 1", x.inPlace(2, 1), 5);
        due("owners", x.ship(0, 0) * 100 + x.ship(1, 0) * 10 + x.ship(2, 0), 199);
    }

    private static void buildState() {
        sentence("STATE: a PLACE has none in the YARD");
        for (int lacks = 0; lacks < 6; lacks++) {
            WhoseShip x = told("n6;s1;");
            for (int k = 0; k < 6; k++) {
                if (k != lacks) {
                    x.fresh(k);
                    x.fresh(k);
                }
            }
            String before = all(x);
            due("build() without a part of place " + lacks, x.build(), STATE);
            same("refused", before, all(x));
            x.fresh(lacks);
            due("build() with it", x.build(), 1);
            due("build() again", x.build(), STATE);
        }
        WhoseShip y = told("n2;l0 1;y0 0 0;y1 0 0;");
        y.year();
        due("build(), one is lost", y.build(), STATE);
    }

    private static void buildFull() {
        sentence("BUILT: its number. STATE: a PLACE has none in the YARD; FULL: 6.");
        WhoseShip x = told("n2;s1;s2;s3;s4;");
        for (int s = 4; s < 6; s++) {
            x.fresh(0);
            x.fresh(1);
            due("build()", x.build(), s);
        }
        due("six, and no part in the yard", x.build(), STATE);
        x.fresh(0);
        due("six, and none of place 1", x.build(), STATE);
        x.fresh(1);
        String before = all(x);
        due("six, and all that it needs", x.build(), FULL);
        same("refused", before, all(x));
        due("ship 5", x.ship(5, 0), 9);
        due("ship 6", x.ship(6, 0), BAD);
        due("undo() of fresh", x.undo(), 7);
        due("undo() of fresh", x.undo(), 6);
        due("undo() of build()", x.undo(), 5);
        due("ships", x.count(1), 5);
        due("its parts lie in the yard", x.now(1), 2);
        due("build() again", x.build(), 5);
    }

    private static void years() {
        sentence("A YEAR (99 at most)");
        WhoseShip x = told("n2;s1;y0 9 30;");
        x.replace(0, 2);
        for (int y = 1; y <= 99; y++) {
            x.year();
            due("the year", x.now(0), y);
        }
        due("the age of one told with 30", x.part(2, 2), 129);
        x.keep(0);
        String before = all(x);
        due("year() in year 99", x.year(), STATE);
        same("refused", before, all(x));
        due("undo()", x.undo(), 9);
        due("the year", x.now(0), 98);
        due("year() in year 98", x.year(), 0);
        due("year() in year 99", x.year(), STATE);
        due("back(0)", x.back(0), 99);
        due("year() behind it", x.year(), STATE);
        due("keep(1) in year 99", x.keep(1), 99);
        due("a new one may come yet", x.fresh(0), 3);
    }

    private static void allAreOlder() {
        sentence("all PARTS are a YEAR older");
        WhoseShip x = told("n2;l0 1;s1;y1 9 4;y0 9 0;");
        due("year()", x.year(), 1);
        due("one in a ship", x.part(1, 2), 1);
        due("a rotten one", x.part(0, 2), 1);
        due("one in the yard", x.part(2, 2), 5);
        due("one that is lost by it", x.part(3, 2), 1);
        x.fresh(1);
        x.year();
        due("one in a ship", x.part(1, 2), 2);
        due("a rotten one", x.part(0, 2), 2);
        due("one in the yard", x.part(2, 2), 6);
        due("one that was lost", x.part(3, 2), 2);
        due("a new one", x.part(4, 2), 1);
    }

    private static void lost() {
        sentence("those in the YARD of AGE LIFE or more are LOST (they are nowhere)");
        WhoseShip x = told("n2;l0 5;l1 30;s1;y0 1 3;y0 1 4;y0 1 5;y0 1 30;y1 1 28;y1 1 29;");
        due("old ones lie there till a year goes by", x.now(1), 6);
        due("year()", x.year(), 4);
        int[] where = {IN_YARD, NOWHERE, NOWHERE, NOWHERE, IN_YARD, NOWHERE};
        for (int i = 0; i < where.length; i++) {
            due("where part " + (2 + i) + " is", x.part(2 + i, 3), where[i]);
        }
        due("in the yard", x.now(1), 2);
        due("of place 0 there", x.place(0, 2), 1);
        due("of place 1 there", x.place(1, 2), 1);
        due("parts", x.count(2), 8);
        due("the next year", x.year(), 2);
        due("and the next: lost ones are not lost again", x.year(), 0);
        for (int y = 4; y <= 7; y++) {
            due("year()", x.year(), 0);
        }
        due("a rotten one is not lost in a ship", x.part(0, 3), 0);
        due("it is replaced", x.replace(0, x.fresh(0)), 0);
        due("it lies in the yard till a year goes by", x.part(0, 3), IN_YARD);
        due("year()", x.year(), 1);
        due("it is nowhere", x.part(0, 3), NOWHERE);
        WhoseShip y = told("n2;l0 1;");
        y.fresh(0);
        due("a life of 1: lost in its first year", y.year(), 1);
        due("undo()", y.undo(), 1);
        due("it is there again", y.part(0, 3), IN_YARD);
    }

    private static void rotten() {
        sentence("ROTTEN is a PART in a SHIP of AGE LIFE or more.");
        WhoseShip x = told("n6;l0 1;l1 2;l2 3;l3 4;l4 5;l5 6;s1;y0 9 30;");
        due("in year 0", x.ship(0, 1), 0);
        for (int y = 1; y <= 8; y++) {
            x.year();
            due("in year " + y, x.ship(0, 1), y >= 6 ? 63 : (1 << y) - 1);
        }
        x.replace(0, x.fresh(0));
        due("a new one in place 0", x.ship(0, 1), 62);
        x.replace(0, x.fresh(5));
        due("a new one in place 5", x.ship(0, 1), 30);
        WhoseShip z = told("n2;l0 4;s1;y0 9 3;y0 9 4;y0 9 5;");
        due("old ones in the yard", z.ship(0, 1), 0);
        due("nor a ship by them", z.now(2), 0);
        z.replace(0, 2);
        due("age 3 of 4", z.ship(0, 1), 0);
        z.replace(0, 3);
        due("age 4 of 4", z.ship(0, 1), 1);
        z.replace(0, 4);
        due("age 5 of 4", z.ship(0, 1), 1);
        due("ship(0, 2)", z.ship(0, 2), BAD);
        due("ship(0, -1)", z.ship(0, -1), BAD);
        due("ship(1, 1)", z.ship(1, 1), BAD);
        due("ship(-1, 1)", z.ship(-1, 1), BAD);
    }

    private static void rottenShips() {
        sentence("2 SHIPS with something ROTTEN (bits)");
        WhoseShip x = told("n2;l1 2;s1;s1;s1;s1;");
        x.fresh(0);
        x.fresh(1);
        x.build();
        x.year();
        x.fresh(0);
        x.fresh(1);
        x.build();
        due("a year on", x.now(2), 0);
        x.year();
        due("two years on", x.now(2), 31);
        x.year();
        due("three years on", x.now(2), 63);
        x.replace(3, x.fresh(1));
        due("one is made new", x.now(2), 55);
        due("without ships", new WhoseShip().now(2), 0);
    }

    /** Does one of the four deeds that can be undone, which is not refused here. */
    private static void deed(WhoseShip x, int which) {
        int answer = switch (which) {
            case 0 -> x.fresh(0);
            case 1 -> x.replace(0, x.count(2) - 1);
            case 2 -> x.year();
            default -> x.build();
        };
        due("deed " + which + " is not refused (1)", answer >= 0 ? 1 : 0, 1);
    }

    private static void undone() {
        sentence("UNDONE: the latest replace(), fresh(), build(), year() that was not refused");
        WhoseShip x = told("n2;l1 3;s1;y1 3 1;y1 2 2;y0 1 0;");
        String[] before = new String[4];
        for (int i = 0; i < 4; i++) {
            before[i] = now(x);
            deed(x, i);
            due("to be undone", x.now(4), i + 1);
        }
        due("the last is built", x.count(1), 2);
        due("refused: replace", x.replace(0, 0) + x.replace(9, 0), STATE + BAD);
        due("refused: fresh", x.fresh(2), BAD);
        due("refused: build", x.build(), STATE);
        due("to be undone", x.now(4), 4);
        for (int i = 3; i >= 0; i--) {
            due("undo()", x.undo(), i);
            same("as ahead of deed " + i, before[i], now(x));
        }
        due("undo()", x.undo(), STATE);
        due("what was undone is not known", x.now(4), 0);
    }

    private static void tenAreKnown() {
        sentence("(10 are known, older ones are lost)");
        WhoseShip x = told("n2;s1;");
        Deque<String> known = new ArrayDeque<>();
        int[] deeds = {9, 1, 1, 4, 12, 3};
        int[] undos = {0, 1, 0, 4, 3, 10};
        for (int i = 0; i < deeds.length; i++) {
            for (int j = 0; j < deeds[i]; j++) {
                known.push(brief(x));
                x.fresh(j % 2);
                x.count(0);
                while (known.size() > 10) {
                    known.removeLast();
                }
                due("to be undone", x.now(4), known.size());
            }
            for (int j = 0; j < undos[i]; j++) {
                String want = known.pop();
                due("undo()", x.undo(), known.size());
                same("as it was", want, brief(x));
            }
        }
        due("none is left", x.undo(), STATE);
        due("the older ones stand", x.count(2), 14);
    }

    /** Parts differ by their places alone here, and few calls are to be made. */
    private static String brief(WhoseShip x) {
        int last = x.count(2) - 1;
        return last + " " + x.part(last, 0) + " " + x.place(0, 2) + " " + x.place(1, 2);
    }

    private static void undoState() {
        sentence("UNDONE: how many more may be. STATE: none.");
        WhoseShip x = told("n2;s1;");
        due("undo() of nothing", x.undo(), STATE);
        String before = all(x);
        due("undo() again", x.undo(), STATE);
        same("refused", before, all(x));
        x.year();
        due("undo() of one", x.undo(), 0);
        due("undo() of none", x.undo(), STATE);
        for (int i = 0; i < 11; i++) {
            x.year();
        }
        for (int left = 9; left >= 0; left--) {
            due("undo()", x.undo(), left);
        }
        due("an eleventh", x.undo(), STATE);
        due("the year", x.now(0), 1);
    }

    private static void undoIsOfFourCalls() {
        sentence("the latest replace(), fresh(), build(), year()");
        WhoseShip x = told("n2;s1;y0 2 3;");
        x.type('s');
        x.clear();
        x.type('x');
        x.port();
        x.saw(0, 2);
        x.forget();
        x.saw(1, 0);
        x.keep(0);
        x.rate(5, 0);
        x.becomes(0, 0, 2, -1);
        x.stays(0, 0);
        x.decides(0, 0);
        x.thief(0, 0, 0);
        x.repairs(0, 40, 0);
        x.leastSeen(0);
        due("none of these is known", x.now(4), 0);
        due("undo()", x.undo(), STATE);
        x.year();
        x.saw(0, 0);
        x.type('y');
        x.rate(0, 0);
        x.keep(1);
        due("undo() of year()", x.undo(), 0);
        due("the year", x.now(0), 0);
        due("seen", x.count(3), 2);
        due("letters", x.count(4), 2);
        due("the trace", x.trace(), 100002);
        due("the image of that year", x.back(1), 1);
    }

    private static void undonePartsAreNone() {
        sentence("or there is no such thing");
        WhoseShip x = told("n3;w0 2;w1 2;w2 3;s0;s1;y2 1 0;");
        due("place 2 of make 1", x.replace(0, 6), 2);
        due("MORE: 0 is heavier by 4 to 3", x.becomes(0, 2, 1, -1), NONE);
        x.fresh(0);
        due("a new one in place 0 would make it 1's", x.becomes(0, 2, 1, 0), 7);
        x.fresh(1);
        due("both are undone", x.undo() + x.undo(), 3);
        due("part 7", x.part(7, 0) + x.part(8, 0), 2 * BAD);
        due("of place 0, 1 in the yard", x.place(0, 2) + x.place(1, 2), 0);
        due("in the yard", x.now(1), 1);
        due("replace()", x.replace(0, 7), BAD);
        due("rate()", x.rate(0, 7), NO);
        due("becomes()", x.becomes(0, 2, 1, -1), NONE);
        due("thief()", x.thief(0, 0, 0), 1);
        due("build()", x.build(), STATE);
        due("a ship that is undone", x.ship(2, 0), BAD);
        WhoseShip y = told("n2;l1 1;y0 1 0;y1 0 5;");
        due("build()", y.build(), 0);
        y.fresh(1);
        due("OLDEST: a new one in place 1 makes it 1's", y.becomes(0, 3, 1, 1), 2);
        y.undo();
        due("not if it is undone", y.becomes(0, 3, 1, -1), NONE);
        due("nor is it lost", y.year(), 0);
        y.undo();
        y.undo();
        due("the ship is undone", y.count(1) + y.mayBe() + y.now(2), 0);
        due("ship 0", y.is(0, 0), BAD);
    }

    private static void sixShipsOfSixPlaces() {
        sentence("a SHIP more (6 in all at most)");
        WhoseShip x = told("n6;s0;s1;s2;s3;");
        for (int s = 4; s < 6; s++) {
            for (int k = 0; k < 6; k++) {
                x.fresh(k);
            }
            due("build()", x.build(), s);
        }
        due("keep(0)", x.keep(0), 0);
        for (int k = 0; k < 6; k++) {
            due("a new one", x.fresh(k), 36 + k);
            due("replace()", x.replace(5, 36 + k), 30 + k);
        }
        for (int i = 9; i >= 4; i--) {
            due("undo()", x.undo(), i);
        }
        due("three are replaced still", x.inPlace(5, 2), 38);
        due("three are not", x.inPlace(5, 3), 33);
        due("the last is not", x.inPlace(5, 5), 35);
        due("it is in its ship", x.part(35, 3), 5);
        due("back(0)", x.back(0), 0);
        for (int s = 0; s < 6; s++) {
            for (int k = 0; k < 6; k++) {
                due("inPlace(" + s + ", " + k + ")", x.inPlace(s, k), 6 * s + k);
            }
        }
        due("parts", x.count(2), 36);
    }

    private static void fortyEightParts() {
        sentence("then new ones as they come (48 in all at most)");
        WhoseShip x = told("n2;l0 30;l1 30;y0 1 0;y1 0 5;");
        due("build()", x.build(), 0);
        for (int p = 2; p < 48; p++) {
            due("fresh(0)", x.fresh(0), p);
        }
        due("in the yard", x.now(1), 46);
        due("of place 0", x.place(0, 2), 46);
        due("of place 1", x.place(1, 2), 0);
        due("build() without place 1", x.build(), STATE);
        for (int law = 0; law < 5; law++) {
            due("becomes 2's by law " + law, x.becomes(0, law, 2, -1), NONE);
        }
        due("OLDEST: place 1 can't yield", x.becomes(0, 3, 1, -1), NONE);
        due("thief by KEEL", x.thief(0, 0, 0) * 10 + x.thief(0, 0, 1), 12);
        due("rate of the last one: FORGED", x.rate(5, 47), 46);
        due("year()", x.year(), 0);
        due("the last one's age", x.part(47, 2), 1);
        due("replace by the last one", x.replace(0, 47), 0);
        due("undo()", x.undo(), 9);
        due("keep(1)", x.keep(1), 1);
        due("back(1)", x.back(1), 1);
        due("the last one", x.part(47, 3), IN_YARD);
        due("part 0 comes to the yard", x.replace(0, 46), 0);
        due("of place 0", x.place(0, 2), 46);
        due("thief by KEEL: one of 46 makes it 1's", x.thief(0, 0, 0) * 1000 + x.thief(0, 0, 1), 91092);
    }

    private static void imagesKeepNow() {
        sentence("IMAGES 0, 1 keep NOW (the YEAR, PARTS, where each is, SHIPS)");
        WhoseShip x = told("n2;l0 2;s1;y0 1 0;y1 2 0;");
        String first = now(x);
        due("keep(0)", x.keep(0), 0);
        x.year();
        x.replace(0, 2);
        x.fresh(0);
        x.build();
        String second = now(x);
        due("keep(1)", x.keep(1), 1);
        x.year();
        x.fresh(1);
        x.replace(1, 5);
        due("back(0)", x.back(0), 0);
        same("as in image 0", first, now(x));
        due("no part 4", x.part(4, 0), BAD);
        due("no ship 1", x.ship(1, 0), BAD);
        due("back(1)", x.back(1), 1);
        same("as in image 1", second, now(x));
        x.year();
        due("keep(0) again", x.keep(0), 2);
        String third = now(x);
        due("back(1) again", x.back(1), 1);
        same("as in image 1", second, now(x));
        due("back(0)", x.back(0), 2);
        same("as in image 0 now", third, now(x));
        due("back(0) again", x.back(0), 2);
        same("as in image 0 still", third, now(x));
        due("a part of place 0", x.fresh(0), 5);
        due("keep(1)", x.keep(1), 2);
        due("undo()", x.undo(), 0);
        due("another part of that number, of place 1", x.fresh(1), 5);
        due("back(1)", x.back(1), 2);
        due("of place 0 again", x.part(5, 0), 0);
    }

    private static void imagesKeepNothingElse() {
        sentence("nothing else (nothing can be UNDONE behind back())");
        WhoseShip x = told("n2;s1;");
        x.saw(0, 0);
        x.type('s');
        x.rate(0, 0);
        x.keep(0);
        x.saw(1, 9);
        x.type('1');
        x.rate(1, 1);
        x.year();
        x.keep(1);
        due("back(0)", x.back(0), 0);
        due("seen", x.count(3), 2);
        due("letters", x.count(4), 2);
        due("the trace", x.trace(), 12);
        due("the other image", x.back(1), 1);
    }

    private static void nothingUndoneBehindBack() {
        sentence("(nothing can be UNDONE behind back())");
        WhoseShip x = told("n2;s1;");
        x.year();
        x.keep(0);
        due("keep() leaves what may be undone", x.now(4), 1);
        x.fresh(0);
        due("back(1), none was kept", x.back(1), STATE);
        due("back(2)", x.back(2), BAD);
        due("refused ones leave it, too", x.now(4), 2);
        due("back(0)", x.back(0), 1);
        due("to be undone", x.now(4), 0);
        due("undo()", x.undo(), STATE);
        due("the year", x.now(0), 1);
        x.fresh(1);
        due("what comes behind it may be", x.undo(), 0);
        due("and no more", x.undo(), STATE);
        due("parts", x.count(2), 2);
    }

    private static void imagesBadAndState() {
        sentence("All of that becomes as an IMAGE has it: the YEAR. BAD; STATE: none was kept.");
        WhoseShip x = told("n2;s1;");
        x.year();
        String before = all(x);
        due("back(0)", x.back(0), STATE);
        due("back(1)", x.back(1), STATE);
        due("back(-1)", x.back(-1), BAD);
        due("back(2)", x.back(2), BAD);
        due("keep(-1)", x.keep(-1), BAD);
        due("keep(2)", x.keep(2), BAD);
        for (int o : OUTSIDE) {
            due("back(" + o + ")", x.back(o), BAD);
            due("keep(" + o + ")", x.keep(o), BAD);
        }
        same("refused", before, all(x));
        due("keep(1)", x.keep(1), 1);
        due("back(0)", x.back(0), STATE);
        due("back(1)", x.back(1), 1);
        x.undo();
        due("an image is not undone", x.back(1), 1);
        tell(x, "n2;");
        due("back(1) behind port()", x.back(1), STATE);
    }

    private static void refusedInOrder() {
        sentence("Refused, and nothing changes, the first of these: BAD (a number is not as told, "
            + "or there is no such thing), STATE (as told), FULL.");
        WhoseShip x = told("n2;s1;s1;s1;s1;");
        for (int i = 0; i < 20; i++) {
            x.fresh(0);
            x.fresh(1);
        }
        due("fresh() at 48: BAD ahead of FULL", x.fresh(2), BAD);
        due("fresh() at 48", x.fresh(1), FULL);
        x.build();
        x.build();
        due("build() at 6", x.build(), FULL);
        due("replace(): BAD ahead of STATE", x.replace(6, 0), BAD);
        due("replace(): BAD ahead of STATE", x.replace(0, 48), BAD);
        due("replace()", x.replace(0, 0), STATE);
        for (int i = 0; i < 6; i++) {
            x.saw(0, 0);
        }
        due("saw() at 6: BAD ahead of FULL", x.saw(2, 0), BAD);
        due("saw() at 6: BAD ahead of FULL", x.saw(0, 4), BAD);
        due("saw() at 6", x.saw(0, 0), FULL);
        for (int i = 0; i < 200; i++) {
            x.type('s');
        }
        due("type() at 200: BAD ahead of FULL", x.type(-1), BAD);
        due("type() at 200", x.type('s'), FULL);
        due("back(): BAD ahead of STATE", x.back(2), BAD);
        due("back()", x.back(0), STATE);
        WhoseShip y = told("n2;s1;s1;s1;s1;y0 0 0;y0 0 0;y0 0 0;y1 0 0;y1 0 0;");
        y.build();
        y.build();
        due("build() at 6: STATE ahead of FULL", y.build(), STATE);
    }

    /** Every call that can be refused for a number, each number in turn one that is not as told. */
    private static void refusedChangesNothing() {
        sentence("Refused, and nothing changes");
        WhoseShip x = told("n2;l0 1;s1;s2;y0 9 0;y1 3 0;");
        x.year();
        x.saw(0, 0);
        x.type('s');
        x.rate(3, 1);
        String before = all(x);
        for (int o : OUTSIDE) {
            due("type", x.type(o), BAD);
            due("place", x.place(o, 0) + x.place(0, o), 2 * BAD);
            due("part", x.part(o, 0) + x.part(0, o), 2 * BAD);
            due("inPlace", x.inPlace(o, 0) + x.inPlace(0, o), 2 * BAD);
            due("ship", x.ship(o, 0) + x.ship(0, o), 2 * BAD);
            due("is", x.is(o, 0) + x.is(0, o), 2 * BAD);
            due("now, count", x.now(o) + x.count(o), 2 * BAD);
            due("replace", x.replace(o, 5) + x.replace(0, o), 2 * BAD);
            due("fresh", x.fresh(o), BAD);
            due("twins, leastSeen", x.twins(o) + x.leastSeen(o), 2 * BAD);
            due("becomes", x.becomes(o, 0, 0, 0) + x.becomes(0, o, 0, 0) + x.becomes(0, 0, o, 0)
                + x.becomes(0, 0, 0, o), 4 * BAD);
            due("stays, decides", x.stays(o, 0) + x.stays(0, o) + x.decides(o, 0) + x.decides(0, o), 4 * BAD);
            due("share", x.share(o, 0, 0) + x.share(0, o, 0) + x.share(0, 0, o), 3 * BAD);
            due("thief", x.thief(o, 0, 0) + x.thief(0, o, 0) + x.thief(0, 0, o), 3 * BAD);
            due("saw", x.saw(o, 0) + x.saw(0, o), 2 * BAD);
            due("repairs", x.repairs(o, 0, 0) + x.repairs(0, o, 0) + x.repairs(0, 0, o), 3 * BAD);
            due("rate", x.rate(o, 0) + x.rate(0, o), 2 * NO);
            due("keep, back", x.keep(o) + x.back(o), 2 * BAD);
        }
        due("a part that is nowhere", x.rate(0, 4), NO);
        due("build()", x.build(), STATE);
        due("back()", x.back(0) + x.back(1), 2 * STATE);
        due("replace()", x.replace(0, 4), STATE);
        due("no twins", x.twins(0), NONE);
        same("refused", before, all(x));
        due("the text is as it was", x.type('1') + x.type(';') + x.port(), 6);
    }

    private static void counts() {
        sentence("0 PLACES, 1 SHIPS, 2 PARTS, 3 SEEN, 4 letters of THE TEXT. BAD.");
        WhoseShip x = told("n6;s1;l0 1;");
        x.fresh(0);
        x.year();
        x.saw(0, 0);
        x.saw(0, 0);
        x.type(' ');
        int[] counts = {6, 1, 7, 2, 1};
        for (int i = 0; i < 5; i++) {
            due("count(" + i + ")", x.count(i), counts[i]);
        }
        due("count(5)", x.count(5), BAD);
        due("count(-1)", x.count(-1), BAD);
        sentence("0 the YEAR, 1 PARTS in the YARD, 2 SHIPS with something ROTTEN (bits), 3 FAIR, "
            + "4 how many may be UNDONE. BAD.");
        int[] nows = {1, 0, 1, 31, 2};
        for (int i = 0; i < 5; i++) {
            due("now(" + i + ")", x.now(i), nows[i]);
        }
        due("now(5)", x.now(5), BAD);
        due("now(-1)", x.now(-1), BAD);
        sentence("3 where it is (a SHIP; 8 in the YARD; 9 nowhere). BAD.");
        due("in a ship", x.part(5, 3), 0);
        due("nowhere", x.part(6, 3), NOWHERE);
        due("in the yard", x.part(x.fresh(1), 3), IN_YARD);
        due("part(0, 4)", x.part(0, 4), BAD);
        due("part(0, -1)", x.part(0, -1), BAD);
        due("part(8, 0)", x.part(8, 0), BAD);
        due("part(-1, 0)", x.part(-1, 0), BAD);
        sentence("2 how many PARTS of it lie in the YARD. BAD.");
        due("lost ones do not lie there", x.place(0, 2), 0);
        due("one of place 1", x.place(1, 2), 1);
        due("place(1, 3)", x.place(1, 3), BAD);
        due("place(1, -1)", x.place(1, -1), BAD);
        due("place(6, 2)", x.place(6, 2), BAD);
        due("place(-1, 2)", x.place(-1, 2), BAD);
        sentence("The PART in a PLACE of a SHIP. BAD.");
        due("inPlace(0, 5)", x.inPlace(0, 5), 5);
        due("inPlace(0, 6)", x.inPlace(0, 6), BAD);
        due("inPlace(0, -1)", x.inPlace(0, -1), BAD);
        due("inPlace(1, 0)", x.inPlace(1, 0), BAD);
        due("inPlace(-1, 0)", x.inPlace(-1, 0), BAD);
    }
}
