/** Each sentence of the document on THE TEXT that names a boundary case, under its own words. */
public final class TextEdgesTest {
    private static final int BAD = -1, STATE = -2, FULL = -3;
    private static final int IN_YARD = 8;

    private static int wrong = 0;
    private static int sentences = 0;
    private static String sentence = "";

    private static void sentence(String words) {
        sentence = words;
        sentences++;
    }

    private static void due(String call, long got, long want) {
        if (got != want) {
            wrong++;
            System.out.println("\"" + sentence + "\": " + call + " answered " + got + ", due is " + want);
        }
    }

    private static void typeAll(WhoseShip x, String text) {
        for (int i = 0; i < text.length(); i++) {
            due("type(" + (int) text.charAt(i) + ")", x.type(text.charAt(i)), i + 1);
        }
    }

    private static int tell(WhoseShip x, String text) {
        typeAll(x, text);
        return x.port();
    }

    private static WhoseShip told(String text, int items) {
        WhoseShip x = new WhoseShip();
        due("port() of '" + text + "'", tell(x, text), items);
        return x;
    }

    private static void fault(String text, int at) {
        WhoseShip x = new WhoseShip();
        due("port() of '" + text + "'", tell(x, text), -10 - at);
        due("letters behind port() of '" + text + "'", x.count(4), text.length());
    }

    /** All that NOW is, asked by as few calls as tell it. */
    private static String view(WhoseShip x) {
        StringBuilder b = new StringBuilder();
        for (int i = 0; i < 5; i++) {
            b.append(x.count(i)).append(' ').append(x.now(i)).append(' ');
        }
        for (int k = 0; k < x.count(0); k++) {
            b.append(x.place(k, 0)).append(' ').append(x.place(k, 1)).append(' ');
        }
        for (int p = 0; p < x.count(2); p++) {
            for (int w = 0; w < 4; w++) {
                b.append(x.part(p, w)).append(' ');
            }
        }
        for (int s = 0; s < x.count(1); s++) {
            b.append(x.ship(s, 0)).append(' ');
        }
        return b.append(x.mayBe()).append(' ').append(x.trace()).toString();
    }

    public static void main(String[] args) {
        places();
        weights();
        lives();
        toldShips();
        owners();
        partsOfShips();
        spares();
        spareMakes();
        spareAges();
        twoHundredLetters();
        blanks();
        endsOfItems();
        placesFirst();
        placesThatThereAreNot();
        orderOfNumbers();
        everyLetter();
        firstFault();
        numbersThatAreNone();
        endsTooEarly();
        toldAgain();
        numbersOfParts();
        type();
        clear();
        port();
        portFault();
        readAnew();
        System.out.println(wrong == 0 ? sentences + " sentences on the text hold" : wrong + " answers are not as due");
        if (wrong != 0) {
            System.exit(1);
        }
    }

    private static void places() {
        sentence("PLACES 0 .. n - 1 (n 2 .. 6; 3 at first)");
        WhoseShip x = new WhoseShip();
        due("places at first", x.count(0), 3);
        due("the last place at first", x.place(2, 0), 1);
        due("a place behind it", x.place(3, 0), BAD);
        for (int n = 2; n <= 6; n++) {
            WhoseShip y = told("n" + n + ";", 1);
            due("places", y.count(0), n);
            due("place 0", y.place(0, 0), 1);
            due("place n - 1", y.place(n - 1, 0), 1);
            due("place n", y.place(n, 0), BAD);
            due("place -1", y.place(-1, 0), BAD);
            due("new for place n", y.fresh(n), BAD);
            due("new for place n - 1", y.fresh(n - 1), 0);
            due("port() of the empty text", y.port(), 0);
            due("3 again", y.count(0), 3);
        }
        fault("n0;", 1);
        fault("n1;", 1);
        fault("n7;", 1);
        fault("n10;", 1);
    }

    private static void weights() {
        sentence("each with a WEIGHT (1 .. 9; 1 at first)");
        WhoseShip x = told("n6;", 1);
        for (int k = 0; k < 6; k++) {
            due("weight at first", x.place(k, 0), 1);
        }
        for (int w = 1; w <= 9; w++) {
            WhoseShip y = told("w1 " + w + ";", 1);
            due("weight of place 1", y.place(1, 0), w);
            due("weight of place 0", y.place(0, 0), 1);
            due("weight of place 2", y.place(2, 0), 1);
            due("life of place 1", y.place(1, 1), 9);
        }
        fault("w0 0;", 3);
        fault("w0 10;", 3);
    }

    private static void lives() {
        sentence("a LIFE (1 .. 30 YEARS; 9 at first)");
        WhoseShip x = told("n6;", 1);
        for (int k = 0; k < 6; k++) {
            due("life at first", x.place(k, 1), 9);
        }
        for (int l = 1; l <= 30; l++) {
            WhoseShip y = told("l1 " + l + ";", 1);
            due("life of place 1", y.place(1, 1), l);
            due("life of place 0", y.place(0, 1), 9);
            due("life of place 2", y.place(2, 1), 9);
            due("weight of place 1", y.place(1, 0), 1);
        }
        fault("l0 0;", 3);
        fault("l0 31;", 3);
    }

    private static void toldShips() {
        sentence("SHIPS 0 .. (4 told at most)");
        String text = "";
        for (int many = 0; many <= 4; many++) {
            WhoseShip x = told(text, many);
            due("ships", x.count(1), many);
            due("the last one", many == 0 ? 0 : x.ship(many - 1, 0), many == 0 ? 0 : 5);
            due("one behind it", x.ship(many, 0), BAD);
            text += "s5;";
        }
        fault("s5;s5;s5;s5;s5;", 12);
        fault("s5;s5;s5;s5;s", 12);
        fault("s5;s5;w0 1;s5;y0 0 0;s5; s5;", 25);
    }

    private static void owners() {
        sentence("each with an OWNER (0 .. 9)");
        for (int o = 0; o <= 9; o++) {
            due("owner", told("s" + o + ";", 1).ship(0, 0), o);
        }
        fault("s10;", 1);
        fault("s99;", 1);
    }

    private static void partsOfShips() {
        sentence("a PART of its own in each PLACE, of AGE 0, whose MAKE is that ship (0 ..)");
        WhoseShip x = told("n6;s9;s8;s7;s6;", 5);
        due("parts", x.count(2), 24);
        due("parts in the yard", x.now(1), 0);
        for (int s = 0; s < 4; s++) {
            for (int k = 0; k < 6; k++) {
                int p = 6 * s + k;
                due("in its place", x.inPlace(s, k), p);
                due("its place", x.part(p, 0), k);
                due("its make", x.part(p, 1), s);
                due("its age", x.part(p, 2), 0);
                due("where it is", x.part(p, 3), s);
            }
        }
    }

    private static void spares() {
        sentence("SPARES (6 at most): PARTS of a PLACE");
        String text = "";
        for (int many = 0; many <= 6; many++) {
            WhoseShip x = told("n6;" + text, many + 1);
            due("parts", x.count(2), many);
            due("in the yard", x.now(1), many);
            due("place of the last one", many == 0 ? 0 : x.part(many - 1, 0), many == 0 ? 0 : many - 1);
            text += "y" + many + " 0 0;";
        }
        fault("y0 0 0;y0 0 0;y0 0 0;y0 0 0;y0 0 0;y0 0 0;y0 0 0;", 42);
        fault("y0 0 0;y0 0 0;y0 0 0;y0 0 0;y0 0 0;y0 0 0;y", 42);
    }

    private static void spareMakes() {
        sentence("a MAKE (0 .. 3, or 9: new, no ship's)");
        for (int m = 0; m <= 3; m++) {
            due("make", told("y0 " + m + " 0;", 1).part(0, 1), m);
        }
        due("make", told("y0 9 0;", 1).part(0, 1), 9);
        for (int m = 4; m <= 8; m++) {
            fault("y0 " + m + " 0;", 3);
        }
        fault("y0 10 0;", 3);
        fault("y0 90 0;", 3);
    }

    private static void spareAges() {
        sentence("an AGE (0 .. 30): they lie in the YARD");
        for (int a = 0; a <= 30; a++) {
            WhoseShip x = told("l0 1;s1;y0 1 " + a + ";", 3);
            due("age", x.part(3, 2), a);
            due("where it is", x.part(3, 3), IN_YARD);
            due("of its place in the yard", x.place(0, 2), 1);
        }
        fault("y0 1 31;", 5);
        fault("y0 1 99;", 5);
    }

    private static void twoHundredLetters() {
        sentence("a text (200 letters at most), told letter by letter");
        String padded = "n2;s7" + " ".repeat(194) + ";";
        due("letters of the test's own text", padded.length(), 200);
        WhoseShip x = new WhoseShip();
        typeAll(x, padded);
        due("a letter more", x.type('x'), FULL);
        due("letters", x.count(4), 200);
        due("port()", x.port(), 2);
        due("owner", x.ship(0, 0), 7);
        due("a letter behind port()", x.type('s'), 1);
        WhoseShip y = told("w0 1;".repeat(39) + "w2 7;", 40);
        due("the last of forty items", y.place(2, 0), 7);
        fault("w0 1;".repeat(39) + "w2 7 ", 200);
        fault("w0 1;".repeat(39) + " w2 7", 200);
        fault("w0 1;".repeat(39) + "w0 1x", 199);
    }

    private static void blanks() {
        sentence("blanks (32) between TOKENS");
        due("no blank that is not needed", told("n4;w3 2;s1;", 3).place(3, 0), 2);
        due("blanks between all", told("   n   4  ;  w  3   2 ; s  1  ;  ", 3).place(3, 0), 2);
        due("letters by letters", told("n 4;y 3 9 30;", 2).part(0, 0), 3);
        due("blanks alone", told("     ", 0).count(1), 0);
        // A blank ends a number.
        fault("s1 0;", 3);
        fault("l0 3 0;", 5);
        for (int c : new int[] {0, 9, 10, 11, 12, 13, 31, 33, 160, 255}) {
            fault((char) c + "s1;", 0);
            fault("s" + (char) c + "1;", 1);
            fault("s1" + (char) c + ";", 2);
            fault("s1; " + (char) c, 4);
        }
    }

    private static void endsOfItems() {
        sentence("ITEMS, each ended by ;");
        due("one item", told("s1;", 1).count(1), 1);
        fault(";", 0);
        fault("s1", 2);
        fault("s1 s2;", 3);
        fault("s1s2;", 2);
        fault("s1;;", 3);
        fault("n3 w0 1;", 3);
        fault("w0 1 1;", 5);
        fault("l0 1 1;", 5);
        fault("y0 0 0 0;", 7);
        fault("n;", 1);
        fault("w;", 1);
        fault("w0;", 2);
        fault("l;", 1);
        fault("l0;", 2);
        fault("s;", 1);
        fault("y;", 1);
        fault("y0;", 2);
        fault("y0 0;", 4);
    }

    private static void placesFirst() {
        sentence("n N (the first of all, if it is told)");
        due("told", told("n5;s1;", 2).count(0), 5);
        due("behind blanks", told("  n5;s1;", 2).count(0), 5);
        due("not told", told("s1;", 1).count(0), 3);
        fault("n5;n5;", 3);
        fault("w0 1;n5;", 5);
        fault("l0 1;n5;", 5);
        fault("s1;n5;", 3);
        fault("y0 0 0;n5;", 7);
        fault("s1;  n", 5);
    }

    private static void placesThatThereAreNot() {
        sentence("a PLACE that there is not");
        for (int n = 2; n <= 6; n++) {
            String first = "n" + n + ";";
            for (String item : new String[] {"w", "l", "y"}) {
                String rest = item.equals("y") ? " 3 4;" : " 5;";
                told(first + item + 0 + rest, 2);
                told(first + item + (n - 1) + rest, 2);
                fault(first + item + n + rest, 4);
                fault(first + item + n, 4);
                fault(first + item + 99 + rest, 4);
            }
        }
        told("w2 5;l2 5;y2 3 4;", 3);
        fault("w3 5;", 1);
        fault("l3 5;", 1);
        fault("y3 3 4;", 1);
    }

    private static void orderOfNumbers() {
        sentence("w K N (the WEIGHT of a PLACE) ; l K N (its LIFE) ; s O (a SHIP) ; y K M A (a SPARE)");
        WhoseShip x = told("w1 2;l2 1;y1 2 3;s4;", 4);
        due("weight of place 1", x.place(1, 0), 2);
        due("weight of place 2", x.place(2, 0), 1);
        due("life of place 2", x.place(2, 1), 1);
        due("life of place 1", x.place(1, 1), 9);
        due("the spare's place", x.part(3, 0), 1);
        due("the spare's make", x.part(3, 1), 2);
        due("the spare's age", x.part(3, 2), 3);
        due("the ship's owner", x.ship(0, 0), 4);
    }

    private static boolean isDigit(int c) {
        return c >= '0' && c <= '9';
    }

    private static void afterLetter(String before, int c, int want) {
        WhoseShip x = new WhoseShip();
        typeAll(x, before);
        x.type(c);
        due("port() of '" + before + "' and letter " + c, x.port(), want);
    }

    /** Each of the 256 letters where an item, a number and the end of an item are looked for. */
    private static void everyLetter() {
        sentence("TOKENS are the letters n, w, l, s, y, NUMBERS and ;");
        for (int c = 0; c <= 255; c++) {
            boolean opens = c == 'w' || c == 'l' || c == 's' || c == 'y';
            afterLetter("", c, c == ' ' ? 0 : opens || c == 'n' ? -11 : -10);
            afterLetter("s1;", c, c == ' ' ? 1 : opens ? -14 : -13);
            afterLetter("s", c, c == ' ' || isDigit(c) ? -12 : -11);
            afterLetter("s1", c, c == ' ' ? -13 : c == ';' ? 1 : isDigit(c) ? -11 : -12);
            afterLetter("w0", c, c == ' ' ? -13 : isDigit(c) ? -11 : -12);
            afterLetter("w0 ", c, c == ' ' || isDigit(c) && c != '0' ? -14 : -13);
        }
    }

    private static void firstFault() {
        sentence("FAULT: the place of the first letter of the first TOKEN that can't stand there");
        fault("x", 0);
        fault("   x", 3);
        fault("s1;   s10;", 7);
        fault("s1;n3;x", 3);
        fault("s10;x", 1);
        fault("s10;n100;", 1);
        fault("w3 0;", 1);
        fault("y3 4 31;", 1);
        fault("y0 4 31;", 3);
        fault("y0 4 x", 3);
        fault("n1;n1;", 1);
        fault("s1;s1;s1;s1;s1;x", 12);
        fault("s1;s1;s1;s1;x;s1;", 12);
        fault("s-1;", 1);
        fault("s1.5;", 2);
    }

    private static void numbersThatAreNone() {
        sentence("a NUMBER above 99 or with a 0 ahead of others, that TOKEN's");
        told("s0;l0 10;l1 20;", 3);
        fault("s 99;", 2);
        fault("s 100;", 2);
        fault("s 1000;", 2);
        fault("l0 100;", 3);
        // Numbers that would be 0 .. 9 if they wrapped around.
        fault("s256;", 1);
        fault("s65537;", 1);
        fault("s4294967296;", 1);
        fault("s4294967297;", 1);
        fault("s18446744073709551617;", 1);
        fault("s1" + "0".repeat(197) + ";", 1);
        fault("s00;", 1);
        fault("s01;", 1);
        fault("s 09;", 2);
        fault("s010;", 1);
        fault("s" + "0".repeat(198) + "1", 1);
        fault("w00 1;", 1);
        fault("w0 01;", 3);
        fault("y0 0 00;", 5);
        fault("n02;", 1);
        fault("100", 0);
        fault("01", 0);
        fault("s1 100;", 3);
        fault("s1 00;", 3);
    }

    private static void endsTooEarly() {
        sentence("the text's length, if it ends too early");
        String whole = "n4;w3 9;l2 30;s5;y1 9 30;";
        int items = 0;
        for (int length = 0; length <= whole.length(); length++) {
            String cut = whole.substring(0, length);
            if (cut.isEmpty() || cut.endsWith(";")) {
                items += cut.isEmpty() ? 0 : 1;
                told(cut, items);
                told(cut + "  ", items);
            } else {
                fault(cut, length);
                fault(cut + "  ", length + 2);
            }
        }
        due("items of the whole", items, 5);
    }

    private static void toldAgain() {
        sentence("(WEIGHT, LIFE told again: the later ones count.)");
        WhoseShip x = told("w0 9;w0 1;w1 2;w1 3;w1 4;l2 1;l2 30;l1 30;l1 1;", 9);
        due("weight of place 0", x.place(0, 0), 1);
        due("weight of place 1", x.place(1, 0), 4);
        due("life of place 2", x.place(2, 1), 30);
        due("life of place 1", x.place(1, 1), 1);
    }

    private static void numbersOfParts() {
        sentence("PARTS are numbered: those of SHIP 0 by PLACES, of SHIP 1, .., then SPARES as told, "
            + "then new ones as they come (48 in all at most)");
        WhoseShip x = told("n2;y1 9 7;s3;y0 2 8;s4;y1 3 6;", 6);
        int[] places = {0, 1, 0, 1, 1, 0, 1};
        int[] makes = {0, 0, 1, 1, 9, 2, 3};
        int[] ages = {0, 0, 0, 0, 7, 8, 6};
        for (int p = 0; p < 7; p++) {
            due("place of part " + p, x.part(p, 0), places[p]);
            due("make of part " + p, x.part(p, 1), makes[p]);
            due("age of part " + p, x.part(p, 2), ages[p]);
        }
        due("part 7 ahead of fresh()", x.part(7, 0), BAD);
        due("a new one", x.fresh(1), 7);
        due("the next one", x.fresh(0), 8);
        due("its place", x.part(7, 0) * 10 + x.part(8, 0), 10);
        for (int p = 9; p < 48; p++) {
            due("a new one", x.fresh(p % 2), p);
        }
        due("a 49th", x.fresh(0), FULL);
        due("parts", x.count(2), 48);
        due("the last one", x.part(47, 3), IN_YARD);
        due("one behind it", x.part(48, 3), BAD);
        WhoseShip y = told("n6;s0;s0;s0;s0;y0 0 0;y1 0 0;y2 0 0;y3 0 0;y4 0 0;y5 0 0;", 11);
        due("as many as a text can tell", y.count(2), 30);
        due("the next one", y.fresh(5), 30);
    }

    private static void type() {
        sentence("A letter (0 .. 255) comes to THE TEXT: how many it has. BAD; FULL.");
        WhoseShip x = new WhoseShip();
        for (int c : new int[] {-1, 256, 256 + 's', Integer.MIN_VALUE, Integer.MAX_VALUE, -256 + 's'}) {
            due("type(" + c + ")", x.type(c), BAD);
        }
        due("letters", x.count(4), 0);
        due("type(0)", x.type(0), 1);
        due("type(255)", x.type(255), 2);
        due("type(256)", x.type(256), BAD);
        for (int i = 3; i <= 200; i++) {
            due("type(32)", x.type(' '), i);
        }
        due("type(0) behind 200", x.type(0), FULL);
        due("type(255) behind 200", x.type(255), FULL);
        due("type(256) behind 200", x.type(256), BAD);
        due("type(-1) behind 200", x.type(-1), BAD);
        due("letters", x.count(4), 200);
    }

    private static void clear() {
        sentence("THE TEXT is empty: how many letters it had.");
        WhoseShip x = new WhoseShip();
        due("clear() of nothing", x.clear(), 0);
        due("type", x.type('x'), 1);
        due("clear() of one", x.clear(), 1);
        due("letters", x.count(4), 0);
        typeAll(x, "x".repeat(200));
        due("type behind 200", x.type('x'), FULL);
        due("clear() of 200", x.clear(), 200);
        due("clear() again", x.clear(), 0);
        due("what was there is gone", tell(x, "s1;"), 1);
        due("what port() has read is gone", x.clear(), 0);
        typeAll(x, "n5;");
        due("clear()", x.clear(), 3);
        due("it tells nothing by that", x.count(0) * 10 + x.count(1), 31);
    }

    private static void port() {
        sentence("THE TEXT tells all anew, and is empty then: how many ITEMS.");
        WhoseShip x = told("n6;w5 9;l4 30;s1;s2;y5 3 30;", 6);
        due("letters", x.count(4), 0);
        due("port() of the empty text", x.port(), 0);
        due("places", x.count(0), 3);
        due("ships", x.count(1), 0);
        due("parts", x.count(2), 0);
        due("in the yard", x.now(1), 0);
        due("tell anew", tell(x, "n6;s7;"), 2);
        due("weight", x.place(5, 0), 1);
        due("life", x.place(4, 1), 9);
        due("owner", x.ship(0, 0), 7);
        due("no second ship", x.ship(1, 0), BAD);
        due("no spare", x.part(6, 0), BAD);
    }

    private static void portFault() {
        sentence("-10 less FAULT: nothing changes.");
        WhoseShip x = told("n2;w1 2;l0 3;s1;y0 1 1;", 5);
        x.fresh(1);
        x.keep(0);
        x.year();
        x.saw(1, 0);
        x.rate(3, 0);
        typeAll(x, "n6;w1 9;l0 30;s2;s3;y5 0 0;s10;");
        String before = view(x);
        due("port()", x.port(), -10 - 28);
        due("nothing changes (1)", before.equals(view(x)) ? 1 : 0, 1);
        due("port() again", x.port(), -10 - 28);
        due("clear()", x.clear(), 31);
        due("undo() goes on", x.undo(), 1);
        due("the image is there", x.back(0), 0);
        due("the other is not", x.back(1), STATE);
        due("what a fault's text told is not told later", tell(x, "s4;"), 1);
        due("places", x.count(0), 3);
        due("weight", x.place(1, 0), 1);
        due("life", x.place(0, 1), 9);
        due("ships", x.count(1), 1);
        due("parts", x.count(2), 3);
        typeAll(x, "s5;s6");
        due("port() that ends too early", x.port(), -15);
        due("the letter that lacked", x.type(';'), 6);
        due("port()", x.port(), 2);
        due("owner", x.ship(1, 0), 6);
    }

    private static void readAnew() {
        sentence("(Read anew: as told, nothing SEEN, IMAGES are gone.)");
        WhoseShip x = told("n6;s1;y5 9 0;", 3);
        x.saw(5, 9);
        x.keep(0);
        x.keep(1);
        x.fresh(5);
        x.year();
        due("port()", tell(x, "n2;s1;"), 2);
        due("the year", x.now(0), 0);
        due("age", x.part(0, 2), 0);
        due("seen", x.count(3), 0);
        due("all ships may be", x.mayBe(), 1);
        due("forget()", x.forget(), 0);
        due("image 0", x.back(0), STATE);
        due("image 1", x.back(1), STATE);
        due("to be undone", x.now(4), 0);
        due("undo()", x.undo(), STATE);
        due("parts", x.count(2), 2);
    }
}
