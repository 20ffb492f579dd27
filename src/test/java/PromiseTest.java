/** For each promise of the document: ordinary inputs, the edges that it names, and wrong inputs. */
public final class PromiseTest {
    private static final int BAD = -1, STATE = -2, FULL = -3, NONE = -9, NO_PART = -5;
    private static final int NO = -1000000;
    private static final int[] OUTSIDE = {Integer.MIN_VALUE, -1000, -2, 1000, Integer.MAX_VALUE};

    private static int wrong = 0;
    private static String promise = "";

    private static void due(String call, long got, long want) {
        if (got != want) {
            wrong++;
            System.out.println(promise + ": " + call + " answered " + got + ", due is " + want);
        }
    }

    private static void typeAll(WhoseShip x, String text) {
        for (int i = 0; i < text.length(); i++) {
            x.type(text.charAt(i));
        }
    }

    private static int tell(WhoseShip x, String text) {
        typeAll(x, text);
        return x.port();
    }

    private static WhoseShip told(String text) {
        WhoseShip x = new WhoseShip();
        int items = tell(x, text);
        if (items < 0) {
            due("a text that a test tells: " + text, items, 0);
        }
        return x;
    }

    /**
     * Everything that can be asked without a change, so that two states can be compared; no more
     * calls than that takes, since an object is promised for 512 of them.
     */
    private static String all(WhoseShip x) {
        StringBuilder b = new StringBuilder();
        for (int i = 0; i < 5; i++) {
            b.append(x.count(i)).append(' ').append(x.now(i)).append(' ');
        }
        int places = x.count(0);
        for (int k = 0; k < places; k++) {
            b.append(x.place(k, 0)).append(' ').append(x.place(k, 1)).append(' ');
        }
        int parts = x.count(2);
        for (int p = 0; p < parts; p++) {
            for (int w = 0; w < 4; w++) {
                b.append(x.part(p, w)).append(' ');
            }
        }
        int ships = x.count(1);
        for (int s = 0; s < ships; s++) {
            b.append(x.ship(s, 0)).append(' ');
            for (int k = 0; k < places; k++) {
                b.append(x.inPlace(s, k)).append(' ');
            }
        }
        return b.append(x.mayBe()).append(' ').append(x.trace()).toString();
    }

    private static void same(String what, String before, String after) {
        due(what + " (1: as before)", before.equals(after) ? 1 : 0, 1);
    }

    public static void main(String[] args) {
        newObject();
        type();
        clear();
        port();
        portFaults();
        place();
        part();
        inPlace();
        ship();
        isByKeelAndOldest();
        isByWeights();
        isByHalf();
        now();
        replace();
        fresh();
        build();
        year();
        undo();
        twins();
        becomes();
        becomesOldest();
        stays();
        share();
        decides();
        thief();
        saw();
        mayBe();
        leastSeen();
        repairs();
        rate();
        keepAndBack();
        count();
        System.out.println(wrong == 0 ? "all promises hold" : wrong + " answers are not as due");
        if (wrong != 0) {
            System.exit(1);
        }
    }

    private static void newObject() {
        promise = "1 a new object";
        WhoseShip x = new WhoseShip();
        int[] counts = {3, 0, 0, 0, 0};
        int[] nows = {0, 0, 0, 31, 0};
        for (int i = 0; i < 5; i++) {
            due("count(" + i + ")", x.count(i), counts[i]);
            due("now(" + i + ")", x.now(i), nows[i]);
        }
        for (int k = 0; k < 3; k++) {
            due("weight", x.place(k, 0), 1);
            due("life", x.place(k, 1), 9);
            due("in the yard", x.place(k, 2), 0);
        }
        due("place(3, 0)", x.place(3, 0), BAD);
        due("trace()", x.trace(), 0);
        due("part(0, 0)", x.part(0, 0), BAD);
        due("ship(0, 0)", x.ship(0, 0), BAD);
        due("is(0, 0)", x.is(0, 0), BAD);
        due("mayBe()", x.mayBe(), 0);
        due("undo()", x.undo(), STATE);
        due("back(0)", x.back(0), STATE);
        due("back(1)", x.back(1), STATE);
        due("build()", x.build(), STATE);
        due("the constants", WhoseShip.BAD * 1000 + WhoseShip.STATE * 100 + WhoseShip.FULL * 10 + WhoseShip.NONE,
            -1239);
        due("NO", WhoseShip.NO, NO);
    }

    private static void type() {
        promise = "2 type";
        WhoseShip x = new WhoseShip();
        due("type(0)", x.type(0), 1);
        due("type(255)", x.type(255), 2);
        due("type(256)", x.type(256), BAD);
        due("type(-1)", x.type(-1), BAD);
        for (int i = 3; i <= 200; i++) {
            due("type(32)", x.type(32), i);
        }
        due("type(32) behind 200", x.type(32), FULL);
        due("type(256) behind 200", x.type(256), BAD);
        due("count(4)", x.count(4), 200);
        due("port() of other letters", x.port(), -10);
    }

    private static void clear() {
        promise = "3 clear";
        WhoseShip x = new WhoseShip();
        due("clear() of nothing", x.clear(), 0);
        typeAll(x, "s1");
        due("clear()", x.clear(), 2);
        due("count(4)", x.count(4), 0);
        due("type(';') begins anew", x.type(';'), 1);
        due("clear()", x.clear(), 1);
        due("port() of the empty text", x.port(), 0);
    }

    private static void port() {
        promise = "4 port";
        due("all items", tell(new WhoseShip(), "n6;w5 9;l5 30;s9;y5 3 30;"), 5);
        due("blanks", tell(new WhoseShip(), "  n  2 ; s 0;  "), 2);
        due("blanks alone", tell(new WhoseShip(), "   "), 0);
        due("four ships, six spares",
            tell(new WhoseShip(), "s0;s0;s0;s0;y0 0 0;y0 1 0;y0 2 0;y0 3 0;y0 9 0;y2 9 30;"), 10);

        WhoseShip x = told("y1 2 5;s7;y0 9 0;s8;w1 4;w1 6;l2 3;l2 20;");
        due("spares come behind ships", x.part(6, 0) * 100 + x.part(6, 1) * 10 + x.part(6, 2), 125);
        due("the second spare", x.part(7, 1), 9);
        due("weight told again", x.place(1, 0), 6);
        due("life told again", x.place(2, 1), 20);
        due("owners", x.ship(0, 0) * 10 + x.ship(1, 0), 78);
        due("the text is empty then", x.count(4), 0);

        x.fresh(0);
        x.year();
        x.saw(0, 0);
        x.keep(0);
        x.rate(0, 0);
        due("port() of the empty text", x.port(), 0);
        due("no undo behind it", x.undo(), STATE);
        due("nothing seen", x.count(3), 0);
        due("no image", x.back(0), STATE);
        due("the year", x.now(0), 0);
        due("no ships", x.count(1), 0);
        due("no parts", x.count(2), 0);
        due("weight as at first", x.place(1, 0), 1);
        due("life as at first", x.place(2, 1), 9);
        tell(x, "n6;");
        due("n 6", x.count(0), 6);
        tell(x, "s1;");
        due("n as at first", x.count(0), 3);
    }

    private static void fault(String text, int at) {
        WhoseShip x = told("n4;s3;s4;y1 2 5;");
        x.fresh(2);
        x.saw(1, 1);
        x.keep(1);
        typeAll(x, text);
        String before = all(x);
        due("port() of '" + text + "'", x.port(), -10 - at);
        same("after port() of '" + text + "'", before, all(x));
        due("clear() behind '" + text + "'", x.clear(), text.length());
        due("undo() behind '" + text + "'", x.undo(), 0);
        due("back(1) behind '" + text + "'", x.back(1), 0);
    }

    private static void portFaults() {
        promise = "4 port, faults";
        fault(";", 0);
        fault("3;", 0);
        fault("  x", 2);
        fault("N3;", 0);
        fault("n1;", 1);
        fault("n7;", 1);
        fault("n 03;", 2);
        fault("n00;", 1);
        fault("n3", 2);
        fault("n3  ", 4);
        fault("n", 1);
        fault("n;", 1);
        fault("nn", 1);
        fault("n3;n3;", 3);
        fault("s1;n3;", 3);
        fault("n3;;", 3);
        fault("n3s1;", 2);
        fault("n2;w2 1;", 4);
        fault("w3 1;", 1);
        fault("w0 0;", 3);
        fault("w0 10;", 3);
        fault("w0 1 1;", 5);
        fault("w01;", 1);
        fault("w0;", 2);
        fault("w0 5", 4);
        fault("l0 0;", 3);
        fault("l0 31;", 3);
        fault("l3 1;", 1);
        fault("s10;", 1);
        fault("s100;", 1);
        fault("s99999999999999999999;", 1);
        fault("s4294967296;", 1);
        fault("s;", 1);
        fault("s1;s1;s1;s1;s1;", 12);
        fault("s1;s1;s1;s1;sx", 12);
        fault("y3 0 0;", 1);
        fault("y0 4 0;", 3);
        fault("y0 8 0;", 3);
        fault("y0 10 0;", 3);
        fault("y0 0 31;", 5);
        fault("y0 0;", 4);
        fault("y0 0 0 0;", 7);
        fault("y0 5 x", 3);
        fault("y0 0 0;y0 0 0;y0 0 0;y0 0 0;y0 0 0;y0 0 0;y", 42);
        fault("s1;\t", 3);
        fault("s-1;", 1);
        fault("s1;" + (char) 233, 3);
        fault("s1;" + (char) 0, 3);
    }

    private static void place() {
        promise = "5 place";
        WhoseShip x = told("n2;w0 9;l1 30;s1;y1 0 0;y1 9 3;");
        due("place(0, 0)", x.place(0, 0), 9);
        due("place(1, 0)", x.place(1, 0), 1);
        due("place(0, 1)", x.place(0, 1), 9);
        due("place(1, 1)", x.place(1, 1), 30);
        due("place(0, 2)", x.place(0, 2), 0);
        due("place(1, 2)", x.place(1, 2), 2);
        due("place(2, 0)", x.place(2, 0), BAD);
        due("place(-1, 0)", x.place(-1, 0), BAD);
        due("place(0, 3)", x.place(0, 3), BAD);
        due("place(0, -1)", x.place(0, -1), BAD);
        for (int o : OUTSIDE) {
            due("place(" + o + ", 0)", x.place(o, 0), BAD);
            due("place(0, " + o + ")", x.place(0, o), BAD);
        }
    }

    private static void part() {
        promise = "6 part";
        WhoseShip x = told("n2;s1;s1;y1 3 4;l1 5;");
        for (int p = 0; p < 4; p++) {
            due("its place", x.part(p, 0), p % 2);
            due("its make", x.part(p, 1), p / 2);
            due("its age", x.part(p, 2), 0);
            due("where", x.part(p, 3), p / 2);
        }
        due("a spare's place", x.part(4, 0), 1);
        due("a spare's make", x.part(4, 1), 3);
        due("a spare's age", x.part(4, 2), 4);
        due("a spare's where", x.part(4, 3), 8);
        due("year()", x.year(), 1);
        due("lost", x.part(4, 3), 9);
        due("its age then", x.part(4, 2), 5);
        due("part(5, 0)", x.part(5, 0), BAD);
        due("part(0, 4)", x.part(0, 4), BAD);
        for (int o : OUTSIDE) {
            due("part(" + o + ", 0)", x.part(o, 0), BAD);
            due("part(0, " + o + ")", x.part(0, o), BAD);
        }
    }

    private static void inPlace() {
        promise = "7 inPlace";
        WhoseShip x = told("n2;s1;s1;y1 3 4;");
        due("inPlace(0, 1)", x.inPlace(0, 1), 1);
        due("inPlace(1, 0)", x.inPlace(1, 0), 2);
        x.replace(1, 4);
        due("inPlace(1, 1)", x.inPlace(1, 1), 4);
        due("inPlace(2, 0)", x.inPlace(2, 0), BAD);
        due("inPlace(0, 2)", x.inPlace(0, 2), BAD);
        for (int o : OUTSIDE) {
            due("inPlace(" + o + ", 0)", x.inPlace(o, 0), BAD);
            due("inPlace(0, " + o + ")", x.inPlace(0, o), BAD);
        }
    }

    private static void ship() {
        promise = "8 ship";
        WhoseShip x = told("s0;s8;l0 2;l2 1;y0 9 0;y1 9 30;y2 0 0;");
        due("ship(0, 0)", x.ship(0, 0), 0);
        due("ship(1, 0)", x.ship(1, 0), 8);
        due("ship(0, 1)", x.ship(0, 1), 0);
        x.build();
        due("owner of a built one", x.ship(2, 0), 9);
        due("an old spare is rotten in it", x.ship(2, 1), 2);
        x.year();
        due("ship(0, 1) a year on", x.ship(0, 1), 4);
        x.year();
        due("ship(0, 1) two years on", x.ship(0, 1), 5);
        due("ship(0, 2)", x.ship(0, 2), BAD);
        due("ship(3, 0)", x.ship(3, 0), BAD);
        for (int o : OUTSIDE) {
            due("ship(" + o + ", 0)", x.ship(o, 0), BAD);
            due("ship(0, " + o + ")", x.ship(0, o), BAD);
        }
    }

    private static void isByKeelAndOldest() {
        promise = "9 is, by KEEL and OLDEST";
        WhoseShip x = told("s1;s2;y0 1 1;y2 3 1;y1 9 2;");
        due("KEEL", x.is(0, 0), 0);
        due("OLDEST, all alike: the least place", x.is(1, 3), 1);
        x.replace(0, 7);
        due("OLDEST in place 2", x.is(0, 3), 3);
        due("KEEL is as it was", x.is(0, 0), 0);
        x.replace(0, 6);
        due("OLDEST: of two that of the least place", x.is(0, 3), 1);
        due("KEEL", x.is(0, 0), 1);
        x.replace(0, 8);
        due("OLDEST is new, no ship's", x.is(0, 3), NONE);
        x.replace(0, x.fresh(0));
        due("KEEL is new", x.is(0, 0), NONE);
        due("is(2, 0)", x.is(2, 0), BAD);
        due("is(0, 5)", x.is(0, 5), BAD);
        due("is(0, -1)", x.is(0, -1), BAD);
        for (int o : OUTSIDE) {
            due("is(" + o + ", 0)", x.is(o, 0), BAD);
            due("is(0, " + o + ")", x.is(0, o), BAD);
        }
    }

    private static void isByWeights() {
        promise = "9 is, by MOST and MORE";
        WhoseShip x = told("n4;w0 3;w1 2;w2 2;w3 3;s1;s2;y0 1 0;y1 2 0;y3 9 0;y1 9 0;");
        due("MOST, all", x.is(1, 1), 1);
        due("MORE, all", x.is(1, 2), 1);
        x.replace(0, 8);
        due("MOST, 7 of 10", x.is(0, 1), 0);
        x.replace(0, 9);
        due("MOST, 5 of 10 is no more than half", x.is(0, 1), NONE);
        due("MORE, 5 beside 3 and 2", x.is(0, 2), 0);
        x.replace(0, 10);
        due("MORE, 2, 3, 2, 3: none", x.is(0, 2), NONE);
        x.replace(0, 11);
        due("MORE, 9 weighs most: none", x.is(0, 2), NONE);
        due("MOST, 9 none", x.is(0, 1), NONE);
        WhoseShip y = told("w0 2;s1;s2;y1 9 0;y2 9 0;");
        y.replace(0, 6);
        due("MORE, 3 beside 1", y.is(0, 2), 0);
        y.replace(0, 7);
        due("MORE, 9 weighs as much: none", y.is(0, 2), NONE);
    }

    private static void isByHalf() {
        promise = "9 is, by HALF THE NAILS";
        WhoseShip x = told("n4;w0 9;s1;s2;y2 1 0;y3 1 0;y0 9 0;y1 9 0;y2 9 0;");
        due("all", x.is(1, 4), 1);
        x.replace(0, 8);
        x.replace(0, 9);
        due("two and two: the least make", x.is(0, 4), 0);
        x.replace(0, 10);
        due("one, two: weights don't count", x.is(0, 4), 1);
        x.replace(0, 11);
        due("two new ones don't hide it", x.is(0, 4), 1);
        x.replace(0, 12);
        due("three new ones", x.is(0, 4), NONE);
        WhoseShip y = told("s1;s2;y0 9 0;y1 9 0;");
        y.replace(0, 6);
        due("two of three", y.is(0, 4), 0);
        y.replace(0, 7);
        due("one of three is less than half", y.is(0, 4), NONE);
    }

    private static void now() {
        promise = "10 now";
        WhoseShip x = told("n2;l1 1;s1;s2;y0 0 0;y1 0 0;");
        due("now(0)", x.now(0), 0);
        due("now(1)", x.now(1), 2);
        due("now(2)", x.now(2), 0);
        due("now(3)", x.now(3), 31);
        due("now(4)", x.now(4), 0);
        x.build();
        due("now(1) behind build()", x.now(1), 0);
        due("now(3), twins by all laws", x.now(3), 0);
        x.replace(2, x.fresh(0));
        due("now(3): 9 and 0", x.now(3), 15);
        x.year();
        due("now(0) a year on", x.now(0), 1);
        due("now(2) a year on", x.now(2), 7);
        due("now(4)", x.now(4), 4);
        due("now(5)", x.now(5), BAD);
        due("now(-1)", x.now(-1), BAD);
        for (int o : OUTSIDE) {
            due("now(" + o + ")", x.now(o), BAD);
        }
    }

    private static void replace() {
        promise = "11 replace";
        WhoseShip x = told("n2;l1 2;s1;s2;y1 3 1;");
        due("replace(1, 4)", x.replace(1, 4), 3);
        due("the old one lies in the yard", x.part(3, 3), 8);
        due("the other one is there", x.part(4, 3), 1);
        due("in its place", x.inPlace(1, 1), 4);
        due("replace(0, 3)", x.replace(0, 3), 1);
        due("one of another ship", x.replace(0, 2), STATE);
        due("one that is there", x.replace(0, 3), STATE);
        x.year();
        x.year();
        due("a lost one", x.part(1, 3), 9);
        due("replace by a lost one", x.replace(0, 1), STATE);
        String before = all(x);
        due("no ship", x.replace(2, 1), BAD);
        due("no part", x.replace(0, 5), BAD);
        for (int o : OUTSIDE) {
            due("replace(" + o + ", 3)", x.replace(o, 3), BAD);
            due("replace(0, " + o + ")", x.replace(0, o), BAD);
        }
        same("refused", before, all(x));
    }

    private static void fresh() {
        promise = "12 fresh";
        WhoseShip x = told("n2;s1;");
        due("fresh(1)", x.fresh(1), 2);
        due("place, make, age, where", x.part(2, 0) * 1000 + x.part(2, 1) * 100 + x.part(2, 2) * 10 + x.part(2, 3),
            1908);
        due("fresh(2)", x.fresh(2), BAD);
        due("fresh(-1)", x.fresh(-1), BAD);
        for (int o : OUTSIDE) {
            due("fresh(" + o + ")", x.fresh(o), BAD);
        }
        for (int p = 3; p < 48; p++) {
            due("fresh(0)", x.fresh(0), p);
        }
        String before = all(x);
        due("fresh(0) behind 48", x.fresh(0), FULL);
        due("fresh(2) behind 48", x.fresh(2), BAD);
        same("refused", before, all(x));
        due("count(2)", x.count(2), 48);
        x.undo();
        due("fresh(1) in its stead", x.fresh(1), 47);
        due("its place", x.part(47, 0), 1);
    }

    private static void build() {
        promise = "13 build";
        WhoseShip x = told("n2;s1;y1 3 1;y1 2 1;y0 9 7;");
        due("build()", x.build(), 1);
        due("least number of place 0", x.inPlace(1, 0), 4);
        due("least number of place 1", x.inPlace(1, 1), 2);
        due("where it is", x.part(2, 3), 1);
        due("the other one lies there", x.part(3, 3), 8);
        due("its owner", x.ship(1, 0), 9);
        String before = all(x);
        due("none of place 0", x.build(), STATE);
        same("refused", before, all(x));
        for (int s = 2; s < 6; s++) {
            x.fresh(0);
            x.fresh(1);
            due("build()", x.build(), s);
        }
        due("six, and a place has none", x.build(), STATE);
        x.fresh(0);
        x.fresh(1);
        before = all(x);
        due("six, and all places have one", x.build(), FULL);
        same("refused", before, all(x));
        due("part in the seventh's stead", x.ship(6, 0), BAD);
    }

    private static void year() {
        promise = "14 year";
        WhoseShip x = told("n2;l0 3;l1 2;s1;y0 1 0;y1 1 0;y0 1 3;y1 1 0;");
        due("one that is too old is lost", x.year(), 1);
        due("the lost one", x.part(4, 3), 9);
        due("two of life 2", x.year(), 2);
        due("one of life 3", x.year(), 1);
        due("nothing more", x.year(), 0);
        due("ships keep theirs", x.part(0, 3) + x.part(1, 3), 0);
        due("their age", x.part(1, 2), 4);
        due("all parts are older, lost ones too", x.part(4, 2), 7);
        for (int y = 5; y <= 99; y++) {
            due("year()", x.year(), 0);
        }
        due("now(0)", x.now(0), 99);
        due("age", x.part(0, 2), 99);
        String before = all(x);
        due("year() in year 99", x.year(), STATE);
        same("refused", before, all(x));
        due("undo() behind it", x.undo(), 9);
        due("the year", x.now(0), 98);
        due("year()", x.year(), 0);
    }

    private static void undo() {
        promise = "15 undo";
        WhoseShip x = told("n2;l1 1;s1;y0 3 1;y1 3 0;");
        String[] states = new String[5];
        states[0] = all(x);
        x.replace(0, 2);
        states[1] = all(x);
        x.fresh(1);
        states[2] = all(x);
        x.build();
        states[3] = all(x);
        x.year();
        states[4] = all(x);
        due("refused ones are not known", x.fresh(7) + x.build() + x.replace(0, 99), BAD + STATE + BAD);
        due("now(4)", x.now(4), 4);
        for (int left = 3; left >= 0; left--) {
            due("undo()", x.undo(), left);
            same("as it was ahead of call " + left, states[left], all(x));
        }
        due("none", x.undo(), STATE);
        for (int i = 0; i < 12; i++) {
            x.fresh(0);
            due("known", x.now(4), Math.min(10, i + 1));
        }
        for (int left = 9; left >= 0; left--) {
            due("undo()", x.undo(), left);
        }
        due("older ones are lost", x.undo(), STATE);
        due("two of twelve are left", x.count(2), 6);
        x.saw(0, 0);
        x.rate(0, 0);
        x.type('s');
        x.keep(0);
        x.year();
        x.undo();
        due("what was seen stays", x.count(3), 1);
        due("the trace stays", x.trace(), 1);
        due("the text stays", x.count(4), 1);
        due("the image stays", x.back(0), 0);
    }

    private static void twins() {
        promise = "16 twins";
        WhoseShip x = told("n2;s1;s2;s3;s4;y0 1 0;y0 0 0;");
        for (int law = 0; law < 5; law++) {
            due("twins(" + law + ")", x.twins(law), NONE);
        }
        x.replace(2, 8);
        due("1 and 2 by KEEL", x.twins(0), 12);
        x.replace(3, 9);
        due("0 and 3 come first", x.twins(0), 3);
        due("not by MOST", x.twins(1), NONE);
        x.replace(0, x.fresh(0));
        x.replace(3, x.fresh(0));
        due("none and none are not twins", x.twins(0), 12);
        x.replace(1, x.fresh(0));
        due("none", x.twins(0), NONE);
        due("twins(5)", x.twins(5), BAD);
        due("twins(-1)", x.twins(-1), BAD);
        for (int o : OUTSIDE) {
            due("twins(" + o + ")", x.twins(o), BAD);
        }
    }

    private static void row(WhoseShip x, int law, int make, int... want) {
        String call = "becomes(0, " + law + ", " + make + ", ";
        int many = 0;
        for (int k = 0; k < want.length; k++) {
            due(call + k + ")", x.becomes(0, law, make, k), want[k]);
            many += want[k] == NO_PART ? 0 : 1;
        }
        due(call + "-1)", x.becomes(0, law, make, -1), want[0] == NONE ? NONE : many);
    }

    private static void becomes() {
        promise = "17 becomes";
        WhoseShip x = told("n3;w0 2;w1 2;w2 3;s0;s1;y2 1 0;y1 1 0;y0 1 0;y0 1 0;y0 9 0;y1 2 0;");
        String before = all(x);
        row(x, 0, 0, NO_PART, NO_PART, NO_PART);
        row(x, 0, 1, 8, NO_PART, NO_PART);
        row(x, 0, 2, NONE, NONE, NONE);
        // 7 in all: two of 2, 2, 3 are more than half; none ahead of a part in place 0.
        row(x, 1, 1, NO_PART, 7, 6);
        row(x, 1, 2, NONE, NONE, NONE);
        // By MORE 3 beside 2 and 2 suffices too, but needs two replacements all the same.
        row(x, 2, 1, NO_PART, 7, 6);
        // 2 can't weigh more than any other: the others' places still hold some make with 2 or 3.
        row(x, 2, 2, NONE, NONE, NONE);
        // Half of three: two places; the least make comes first.
        row(x, 4, 1, NO_PART, 7, 6);
        same("nothing is changed", before, all(x));
        due("becomes(0, 1, 1, 3)", x.becomes(0, 1, 1, 3), BAD);
        due("becomes(0, 1, 1, -2)", x.becomes(0, 1, 1, -2), BAD);
        due("becomes(0, 1, 4, -1)", x.becomes(0, 1, 4, -1), BAD);
        due("becomes(0, 1, 9, -1)", x.becomes(0, 1, 9, -1), BAD);
        due("becomes(0, 1, -1, -1)", x.becomes(0, 1, -1, -1), BAD);
        due("becomes(0, 5, 1, -1)", x.becomes(0, 5, 1, -1), BAD);
        due("becomes(2, 1, 1, -1)", x.becomes(2, 1, 1, -1), BAD);
        for (int o : OUTSIDE) {
            due("becomes, ship", x.becomes(o, 0, 0, -1), BAD);
            due("becomes, law", x.becomes(0, o, 0, -1), BAD);
            due("becomes, make", x.becomes(0, 0, o, -1), BAD);
            due("becomes, place", x.becomes(0, 0, 0, o), BAD);
        }

        // A third make may help: 9 in place 1 takes weight from 0, so that 1 weighs more.
        WhoseShip y = told("n3;w0 4;w1 3;w2 3;s0;s1;y0 1 0;y1 9 0;");
        row(y, 2, 1, 6, 7, NO_PART);
        row(y, 1, 1, NONE, NONE, NONE);
        // Four places, two and two: 1 is hidden by 0 until 0 has less than half.
        WhoseShip z = told("n4;s0;s1;y2 1 0;y3 1 0;y0 2 0;y1 2 0;");
        row(z, 4, 1, NO_PART, 11, 8, 9);
        // 2 has half then, but so has 0, which is less, until one of its own gives way.
        row(z, 4, 2, 10, 11, NO_PART, 9);
        row(z, 4, 3, NONE, NONE, NONE, NONE);
    }

    private static void becomesOldest() {
        promise = "17 becomes, by OLDEST";
        WhoseShip x = told("s0;s1;l0 30;l1 30;l2 30;y2 1 0;y2 1 4;y1 1 3;y0 9 0;y0 1 0;");
        String before = all(x);
        row(x, 3, 0, NO_PART, NO_PART, NO_PART);
        // One suffices in place 1 or 2 (or 0, since ages are alike): none stands ahead of a part.
        row(x, 3, 1, NO_PART, NO_PART, 7);
        row(x, 3, 2, NONE, NONE, NONE);
        same("nothing is changed", before, all(x));
        x.year();
        x.year();
        // Ages 2, 2, 2 now; 5 and 6 in the yard make it 1's still.
        row(x, 3, 1, NO_PART, NO_PART, 7);
        x.replace(1, 7);
        x.replace(1, 8);
        // Left are 6 (age 2) of place 2, 10 of place 0 (age 2), both of make 1: place 0's comes first by age.
        row(x, 3, 1, 10, NO_PART, NO_PART);
        x.replace(0, 9);
        // Now place 0 is new of age 2 as all others are: it goes ahead unless replaced.
        row(x, 3, 1, 10, NO_PART, NO_PART);
        row(x, 3, 0, 0, NO_PART, NO_PART);
        WhoseShip y = told("n2;l0 30;l1 30;s0;y0 2 1;y0 9 1;y1 1 1;y0 0 0;");
        // Place 1 must be older than place 0: 4 (age 1) against place 0's 0.
        row(y, 3, 1, NO_PART, 4);
        y.replace(0, 3);
        // Place 0 has age 1 now: to yield, the part of the least number below age 1 comes: 0 itself.
        row(y, 3, 1, 0, 4);
        row(y, 3, 2, 2, NO_PART);
    }

    private static void stays() {
        promise = "18 stays";
        WhoseShip x = told("n3;l0 4;l1 3;l2 2;s0;s1;y0 9 0;");
        due("KEEL", x.stays(0, 0), 4);
        due("MOST: two of three are new behind 3", x.stays(0, 1), 3);
        due("MORE", x.stays(0, 2), 3);
        due("HALF", x.stays(0, 4), 3);
        due("OLDEST: till the last is new", x.stays(0, 3), 4);
        x.year();
        x.year();
        x.year();
        due("what is rotten now is made new a year on", x.stays(0, 1), 1);
        x.replace(0, x.fresh(0));
        due("it is none now", x.stays(0, 0), NONE);
        WhoseShip y = told("n2;l0 30;l1 30;s0;y0 0 0;");
        due("behind 30", y.stays(0, 0), 30);
        WhoseShip z = told("n3;w0 9;l0 30;s0;s1;y0 1 0;");
        due("as long as its keel", z.stays(0, 1), 30);
        String before = all(z);
        z.stays(0, 3);
        same("nothing is changed", before, all(z));
        due("stays(2, 0)", z.stays(2, 0), BAD);
        due("stays(0, 5)", z.stays(0, 5), BAD);
        for (int o : OUTSIDE) {
            due("stays, ship", z.stays(o, 0), BAD);
            due("stays, law", z.stays(0, o), BAD);
        }
    }

    private static void shares(WhoseShip x, int s, int make, int upper, int lower) {
        due("share(" + s + ", " + make + ", 0)", x.share(s, make, 0), upper);
        due("share(" + s + ", " + make + ", 1)", x.share(s, make, 1), lower);
    }

    private static void share() {
        promise = "19 share";
        WhoseShip x = told("n4;w0 3;w1 5;w2 2;w3 2;s0;s1;y0 1 0;y2 9 0;y3 3 0;");
        shares(x, 0, 0, 1, 1);
        shares(x, 0, 1, 0, 1);
        x.replace(0, 8);
        shares(x, 0, 0, 3, 4);
        shares(x, 0, 1, 1, 4);
        x.replace(0, 9);
        shares(x, 0, 0, 7, 12);
        shares(x, 0, 9, 1, 6);
        x.replace(0, 10);
        shares(x, 0, 0, 5, 12);
        shares(x, 0, 3, 1, 6);
        shares(x, 0, 2, 0, 1);
        due("share(0, 4, 0)", x.share(0, 4, 0), BAD);
        due("share(0, 8, 0)", x.share(0, 8, 0), BAD);
        due("share(0, 10, 0)", x.share(0, 10, 0), BAD);
        due("share(0, -1, 0)", x.share(0, -1, 0), BAD);
        due("share(0, 0, 2)", x.share(0, 0, 2), BAD);
        due("share(0, 0, -1)", x.share(0, 0, -1), BAD);
        due("share(2, 0, 0)", x.share(2, 0, 0), BAD);
        for (int o : OUTSIDE) {
            due("share, ship", x.share(o, 0, 0), BAD);
            due("share, make", x.share(0, o, 0), BAD);
            due("share, what", x.share(0, 0, o), BAD);
        }
    }

    private static void decides() {
        promise = "20 decides";
        WhoseShip x = told("n4;w0 5;w1 2;w2 1;w3 1;s0;s1;y0 1 0;y3 1 3;");
        String before = all(x);
        due("KEEL", x.decides(0, 0), 1);
        due("MOST: 5 of 9", x.decides(0, 1), 1);
        due("MORE", x.decides(0, 2), 1);
        due("OLDEST: all alike, the new one in place 0 is first", x.decides(0, 3), 1);
        due("HALF: three of four stay", x.decides(0, 4), 0);
        same("nothing is changed", before, all(x));
        x.replace(0, 9);
        due("OLDEST: part 9 in place 3", x.decides(0, 3), 8);
        x.replace(0, 8);
        due("HALF: 0 in 1, 2, 1 in 0, 3: 0 loses by its own, 1 steps in", x.decides(0, 4), 6);
        WhoseShip y = told("n2;s0;s1;y0 1 0;");
        y.replace(0, 4);
        due("MORE is none; a new one makes a tie again", y.decides(0, 2), 0);
        WhoseShip z = told("n3;w0 2;s0;s1;y0 1 0;");
        z.replace(0, 6);
        due("MORE: none by 2, 1 + 1", z.is(0, 2), NONE);
        due("a new one anywhere makes it one of both", z.decides(0, 2), 6);
        due("decides(2, 0)", z.decides(2, 0), BAD);
        due("decides(0, 5)", z.decides(0, 5), BAD);
        for (int o : OUTSIDE) {
            due("decides, ship", z.decides(o, 0), BAD);
            due("decides, law", z.decides(0, o), BAD);
        }
    }

    private static void thief(WhoseShip x, int law, int upper, int lower) {
        due("thief(0, " + law + ", 0)", x.thief(0, law, 0), upper);
        due("thief(0, " + law + ", 1)", x.thief(0, law, 1), lower);
    }

    private static void thief() {
        promise = "21 thief";
        WhoseShip x = told("n3;w0 3;s0;s1;y0 1 0;y0 0 0;y0 9 0;y1 1 0;y1 0 2;");
        String before = all(x);
        // Place 0: one of three keeps it; places 1 and 2 don't matter.
        thief(x, 0, 7, 9);
        thief(x, 1, 7, 9);
        // OLDEST: place 0: one of three; place 1: 0's own of age 2 keeps it, and so does 1's of age 0.
        thief(x, 3, 7, 9);
        thief(x, 4, 1, 1);
        same("nothing is changed", before, all(x));
        x.replace(0, 8);
        // It is none by KEEL: 0 (now in the yard), 6, 7 in the yard: never none again from place 0.
        thief(x, 0, 2, 3);
        WhoseShip y = told("n2;s0;");
        thief(y, 0, 1, 1);
        WhoseShip z = told("n2;s0;y0 1 0;y1 1 5;");
        thief(z, 3, 0, 1);
        due("thief(1, 0, 0)", z.thief(1, 0, 0), BAD);
        due("thief(0, 5, 0)", z.thief(0, 5, 0), BAD);
        due("thief(0, 0, 2)", z.thief(0, 0, 2), BAD);
        due("thief(0, 0, -1)", z.thief(0, 0, -1), BAD);
        for (int o : OUTSIDE) {
            due("thief, ship", z.thief(o, 0, 0), BAD);
            due("thief, law", z.thief(0, o, 0), BAD);
            due("thief, what", z.thief(0, 0, o), BAD);
        }
    }

    private static void saw() {
        promise = "22 saw, 23 forget";
        WhoseShip x = told("n2;s0;");
        due("forget() of nothing", x.forget(), 0);
        int[] makes = {0, 1, 2, 3, 9, 9};
        for (int i = 0; i < 6; i++) {
            due("saw", x.saw(i % 2, makes[i]), i + 1);
        }
        due("a seventh", x.saw(0, 0), FULL);
        due("a seventh that is bad", x.saw(2, 0), BAD);
        due("count(3)", x.count(3), 6);
        due("forget()", x.forget(), 6);
        due("count(3)", x.count(3), 0);
        due("saw(2, 0)", x.saw(2, 0), BAD);
        due("saw(-1, 0)", x.saw(-1, 0), BAD);
        due("saw(0, 4)", x.saw(0, 4), BAD);
        due("saw(0, 8)", x.saw(0, 8), BAD);
        due("saw(0, 10)", x.saw(0, 10), BAD);
        for (int o : OUTSIDE) {
            due("saw, place", x.saw(o, 0), BAD);
            due("saw, make", x.saw(0, o), BAD);
        }
        due("refused ones are not seen", x.count(3), 0);
    }

    private static void mayBe() {
        promise = "24 mayBe";
        WhoseShip x = told("n2;s0;s1;s2;y1 0 0;");
        due("nothing seen", x.mayBe(), 7);
        x.replace(1, 6);
        x.saw(1, 0);
        due("place 1 of make 0", x.mayBe(), 3);
        x.saw(1, 0);
        due("seen twice", x.mayBe(), 3);
        x.saw(0, 1);
        due("and place 0 of make 1", x.mayBe(), 2);
        x.replace(1, 3);
        due("as it is now", x.mayBe(), 0);
        x.undo();
        x.saw(0, 0);
        due("what can't be", x.mayBe(), 0);
        x.forget();
        x.saw(0, 9);
        due("a new one in none", x.mayBe(), 0);
        x.replace(2, x.fresh(0));
        due("a new one in 2", x.mayBe(), 4);
    }

    private static void leastSeen() {
        promise = "25 leastSeen";
        WhoseShip x = told("n3;s0;s1;s2;y2 0 0;y1 0 0;y0 1 0;");
        due("any one tells: the least", x.leastSeen(0), 1);
        x.replace(1, 10);
        due("place 1 is as in ship 1", x.leastSeen(0), 1);
        x.replace(0, 11);
        due("place 0, 1 are as in ship 1: place 2", x.leastSeen(0), 4);
        due("ship 1 by place 2, too", x.leastSeen(1), 4);
        x.replace(2, 9);
        due("place 2 is as in ship 2: two are needed, 0 and 2 tell", x.leastSeen(0), 5);
        due("ship 2 by place 0", x.leastSeen(2), 1);
        WhoseShip y = told("n2;s0;");
        due("there is no other", y.leastSeen(0), 0);
        y.replace(0, y.fresh(0));
        y.replace(0, y.fresh(1));
        y.fresh(0);
        y.fresh(1);
        due("one of the first ship's old parts", y.build(), 1);
        due("they differ", y.leastSeen(1), 1);
        due("one of new parts alone, as the first is now", y.build(), 2);
        due("nothing tells the first from it", y.leastSeen(0), NONE);
        due("place 0 tells the second from both", y.leastSeen(1), 1);
        WhoseShip z = told("n2;s0;y0 0 0;y1 0 0;");
        z.build();
        due("alike in all", z.leastSeen(0), NONE);
        due("alike in all", z.leastSeen(1), NONE);
        due("leastSeen(2)", z.leastSeen(2), BAD);
        for (int o : OUTSIDE) {
            due("leastSeen(" + o + ")", z.leastSeen(o), BAD);
        }
    }

    private static void repairs() {
        promise = "26 repairs";
        WhoseShip x = told("n3;l0 2;l1 3;l2 4;s0;");
        String before = all(x);
        due("none in a year", x.repairs(0, 1, 0), 0);
        due("none: no year", x.repairs(0, 1, 1), NONE);
        due("in 0 years", x.repairs(0, 0, 0), 0);
        due("in 2 years", x.repairs(0, 2, 0), 1);
        due("in 12 years: 6 + 4 + 3", x.repairs(0, 12, 0), 13);
        due("three in year 12", x.repairs(0, 12, 1), 12);
        due("two in year 4, the first of several", x.repairs(0, 11, 1), 4);
        due("one in year 2", x.repairs(0, 3, 1), 2);
        due("in 40 years: 20 + 13 + 10", x.repairs(0, 40, 0), 43);
        same("nothing is changed", before, all(x));
        for (int i = 0; i < 5; i++) {
            x.year();
        }
        due("what is rotten now is made new a year on", x.repairs(0, 1, 0), 3);
        due("in 0 years", x.repairs(0, 0, 1), NONE);
        due("repairs(0, 41, 0)", x.repairs(0, 41, 0), BAD);
        due("repairs(0, -1, 0)", x.repairs(0, -1, 0), BAD);
        due("repairs(0, 1, 2)", x.repairs(0, 1, 2), BAD);
        due("repairs(0, 1, -1)", x.repairs(0, 1, -1), BAD);
        due("repairs(1, 1, 0)", x.repairs(1, 1, 0), BAD);
        for (int o : OUTSIDE) {
            due("repairs, ship", x.repairs(o, 1, 0), BAD);
            due("repairs, years", x.repairs(0, o, 0), BAD);
            due("repairs, what", x.repairs(0, 1, o), BAD);
        }
    }

    private static void rate() {
        promise = "27 rate, 31 trace";
        WhoseShip x = told("n2;w1 7;l0 20;l1 12;s0;y1 3 5;y0 9 19;");
        due("PART", x.rate(0, 2), 5);
        due("trace", x.trace(), 1);
        due("KEEL", x.rate(1, 2), 12);
        due("trace", x.trace(), 12);
        due("BORROWED", x.rate(2, 2), -7);
        due("trace", x.trace(), 113);
        due("MAST", x.rate(3, 2), 24);
        due("trace", x.trace(), 1124);
        due("SHARED", x.rate(4, 2), -4);
        due("trace", x.trace(), 11225);
        due("FORGED", x.rate(5, 2), 7);
        due("trace", x.trace(), 111226);
        due("SHARED, new", x.rate(4, 3), 19 - 20 + 9);
        due("in a ship", x.rate(1, 1), 7);
        long trace = x.trace();
        due("rate(6, 0)", x.rate(6, 0), NO);
        due("rate(-1, 0)", x.rate(-1, 0), NO);
        due("rate(0, 4)", x.rate(0, 4), NO);
        x.year();
        due("it is nowhere", x.part(3, 3), 9);
        due("rate of one that is nowhere", x.rate(0, 3), NO);
        for (int o : OUTSIDE) {
            due("rate, kind", x.rate(o, 0), NO);
            due("rate, part", x.rate(0, o), NO);
        }
        due("nothing is added to the trace", x.trace(), trace);
        x.port();
        due("the trace is not the text's", x.trace(), trace);
    }

    private static void keepAndBack() {
        promise = "28 keep, 29 back";
        WhoseShip x = told("n2;l0 3;s0;y0 1 1;y1 1 0;");
        due("keep(0)", x.keep(0), 0);
        String first = all(x);
        due("back(1)", x.back(1), STATE);
        x.year();
        x.fresh(1);
        x.replace(0, 2);
        due("keep(1)", x.keep(1), 1);
        x.undo();
        due("keep() leaves what may be undone", x.now(4), 2);
        x.back(1);
        String second = all(x);
        due("back(1): the year", x.now(0), 1);
        due("back(1): part 4", x.part(4, 0), 1);
        due("back(1): where", x.inPlace(0, 0), 2);
        due("nothing can be undone", x.undo(), STATE);
        due("back(0)", x.back(0), 0);
        same("as image 0 has it", first, all(x));
        x.fresh(0);
        due("undo() of what came behind back()", x.undo(), 0);
        due("another part 4", x.fresh(0), 4);
        x.build();
        x.year();
        due("back(1) again", x.back(1), 1);
        same("as image 1 has it", second, all(x));
        x.saw(0, 1);
        x.type('s');
        x.rate(0, 0);
        x.back(0);
        due("what was seen stays", x.count(3), 1);
        due("the text stays", x.count(4), 1);
        due("the trace stays", x.trace(), 1);
        x.year();
        due("keep(0) anew", x.keep(0), 1);
        x.year();
        due("back(0)", x.back(0), 1);
        x.year();
        due("keep(2)", x.keep(2), BAD);
        due("keep(-1)", x.keep(-1), BAD);
        due("back(2)", x.back(2), BAD);
        due("back(-1)", x.back(-1), BAD);
        for (int o : OUTSIDE) {
            due("keep(" + o + ")", x.keep(o), BAD);
            due("back(" + o + ")", x.back(o), BAD);
        }
        due("refused ones leave what may be undone", x.now(4), 1);
    }

    private static void count() {
        promise = "30 count";
        WhoseShip x = told("n5;s0;s1;y0 9 0;");
        x.saw(0, 0);
        x.type('n');
        x.type('3');
        int[] counts = {5, 2, 11, 1, 2};
        for (int i = 0; i < 5; i++) {
            due("count(" + i + ")", x.count(i), counts[i]);
        }
        for (int i = 0; i < 9; i++) {
            x.year();
        }
        due("lost parts count", x.count(2), 11);
        due("count(5)", x.count(5), BAD);
        due("count(-1)", x.count(-1), BAD);
        for (int o : OUTSIDE) {
            due("count(" + o + ")", x.count(o), BAD);
        }
    }
}
