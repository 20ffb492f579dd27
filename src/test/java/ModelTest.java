import java.math.BigInteger;
import java.util.ArrayDeque;
import java.util.ArrayList;
import java.util.Arrays;
import java.util.Comparator;
import java.util.Deque;
import java.util.List;
import java.util.Random;
import java.util.TreeMap;
import java.util.regex.Matcher;
import java.util.regex.Pattern;

/**
 * Long runs of calls, the same in each run of the test, against a plain model that is written
 * from the document anew: it tries every row, copies everything and knows nothing of speed.
 */
public final class ModelTest {
    private static final int RUNS = 700, FULL_YARDS = 10, CALLS = 512, MOST_WRONG = 20;
    private static final int FEW_ROWS = 20000;
    private static int wrong = 0;

    public static void main(String[] args) {
        for (int run = 0; run < RUNS && wrong < MOST_WRONG; run++) {
            new Run(run).go();
        }
        for (int run = RUNS; run < RUNS + FULL_YARDS && wrong < MOST_WRONG; run++) {
            new Run(run).goWithFullYard();
        }
        System.out.println(wrong == 0 ? "all runs are as the model's" : wrong + " answers are not as the model's");
        if (wrong != 0) {
            System.exit(1);
        }
    }

    /** One object beside one model; ends with the first answer that differs. */
    private static final class Run {
        private final int number;
        private final Random random;
        private final WhoseShip x = new WhoseShip();
        private final Model m = new Model();
        private final int style;
        private int calls = 0;
        private boolean over = false;

        private Run(int number) {
            this.number = number;
            this.random = new Random(number);
            this.style = number % 5;
        }

        private void due(String call, long got, long want) {
            calls++;
            if (got != want && !over && calls <= CALLS) {
                wrong++;
                over = true;
                System.out.println("run " + number + ", call " + calls + ": " + call
                    + " answered " + got + ", the model " + want);
            }
        }

        private void go() {
            if (style != 4) {
                tell(goodText());
            }
            while (calls < CALLS && !over) {
                step();
            }
        }

        /** The other runs leave out a change with many rows to try; here every one has many. */
        private void goWithFullYard() {
            StringBuilder b = new StringBuilder("n6;s1;s2;");
            for (int k = 0; k < 6; k++) {
                b.append("l").append(k).append(" 30;w").append(k).append(" ").append(1 + upTo(8)).append(";");
                b.append("y").append(k).append(" ").append(upTo(3)).append(" ").append(upTo(4)).append(";");
            }
            tell(b.toString());
            for (int i = 0; i < 60; i++) {
                due("fresh(" + i % 6 + ")", x.fresh(i % 6), m.fresh(i % 6));
                replaceOne();
                if (i % 12 == 11 && style > 1) {
                    due("year()", x.year(), m.year());
                }
            }
            if (m.rows() <= FEW_ROWS) {
                due("many rows to try", m.rows(), FEW_ROWS + 1);
            }
            for (int law = 0; law < 5 && !over; law++) {
                becomesAll(upTo(1), law, upTo(3));
                replaceOne();
            }
        }

        private void replaceOne() {
            int s = upTo(1);
            int p = partNumber();
            due("replace(" + s + ", " + p + ")", x.replace(s, p), m.replace(s, p));
        }

        private void becomesAll(int s, int law, int make) {
            int[] row = m.fewestFor(s, law, make);
            for (int k = -1; k < m.n; k++) {
                due("becomes(" + s + ", " + law + ", " + make + ", " + k + ")",
                    x.becomes(s, law, make, k), Model.ofRow(row, k));
            }
        }

        private int upTo(int most) {
            return random.nextInt(most + 1);
        }

        private int shipNumber() {
            return upTo(30) == 0 ? upTo(9) - 2 : upTo(Math.max(0, m.now.ships.size() - 1));
        }

        private int partNumber() {
            return upTo(30) == 0 ? upTo(60) - 5 : upTo(Math.max(0, m.now.parts.size() - 1));
        }

        private int placeNumber() {
            return upTo(30) == 0 ? upTo(9) - 2 : upTo(m.n - 1);
        }

        private int law() {
            return upTo(40) == 0 ? upTo(9) - 2 : upTo(4);
        }

        private int make() {
            return upTo(40) == 0 ? upTo(12) - 2 : upTo(4) == 4 ? 9 : upTo(3);
        }

        private int what(int most) {
            return upTo(40) == 0 ? upTo(9) - 3 : upTo(most);
        }

        private void tell(String text) {
            for (int i = 0; i < text.length(); i++) {
                due("type", x.type(text.charAt(i)), m.type(text.charAt(i)));
            }
            due("port of '" + text + "'", x.port(), m.port());
        }

        private String gap() {
            return upTo(4) == 0 ? " " : "";
        }

        private String goodText() {
            StringBuilder b = new StringBuilder(gap());
            int n = 3;
            if (upTo(3) > 0) {
                n = 2 + upTo(4);
                b.append("n").append(gap()).append(n).append(gap()).append(";");
            }
            int items = 3 + upTo(12);
            int ships = 0;
            int spares = 0;
            for (int i = 0; i < items; i++) {
                switch (upTo(4)) {
                    case 0:
                        b.append("w").append(upTo(n - 1)).append(" ").append(1 + upTo(8));
                        break;
                    case 1:
                        b.append("l ").append(upTo(n - 1)).append("  ").append(1 + upTo(upTo(1) == 0 ? 4 : 29));
                        break;
                    case 2:
                        if (ships++ == 4) {
                            continue;
                        }
                        b.append("s").append(gap()).append(upTo(9));
                        ships = Math.min(ships, 4);
                        break;
                    default:
                        if (spares == 6) {
                            continue;
                        }
                        spares++;
                        b.append("y").append(upTo(n - 1)).append(" ").append(upTo(4) == 4 ? 9 : upTo(3))
                            .append(" ").append(upTo(upTo(1) == 0 ? 3 : 30));
                }
                b.append(gap()).append(";").append(gap());
            }
            return b.length() > 200 ? "s1;s2;" : b.toString();
        }

        private String badText() {
            StringBuilder b = new StringBuilder(goodText());
            String signs = "nwlsy;0123456789 x3;9" + (char) 200;
            int changes = 1 + upTo(2);
            for (int i = 0; i < changes && b.length() > 0; i++) {
                int at = upTo(b.length() - 1);
                char sign = signs.charAt(upTo(signs.length() - 1));
                switch (upTo(3)) {
                    case 0: b.setCharAt(at, sign); break;
                    case 1: b.deleteCharAt(at); break;
                    case 2: b.insert(at, sign); break;
                    default: b.setLength(at); break;
                }
            }
            b.setLength(Math.min(200, b.length()));
            return b.toString();
        }

        private void step() {
            int dice = upTo(99);
            if (dice < 22) {
                change();
            } else if (dice < 50) {
                look();
            } else if (dice < 99) {
                ask();
            } else {
                text();
            }
        }

        private void text() {
            if (style == 0 && upTo(2) == 0) {
                int letter = upTo(400) - 50;
                due("type", x.type(letter), m.type(letter));
            } else {
                tell(upTo(3) == 0 ? goodText() : badText());
            }
            if (upTo(1) == 0) {
                due("clear", x.clear(), m.clear());
            }
        }

        private void change() {
            int s = shipNumber();
            int p = partNumber();
            int k = placeNumber();
            switch (upTo(style == 1 ? 14 : 11)) {
                case 0: case 1: case 2: case 3:
                    for (int i = 0; i < 5 && m.lies(p) == 0; i++) {
                        p = partNumber();
                    }
                    due("replace(" + s + ", " + p + ")", x.replace(s, p), m.replace(s, p));
                    break;
                case 4: case 5: case 6: due("fresh(" + k + ")", x.fresh(k), m.fresh(k)); break;
                case 7: due("build()", x.build(), m.build()); break;
                case 8: due("undo()", x.undo(), m.undo()); break;
                case 9: keepOrBack(); break;
                default:
                    if (style == 2 && upTo(2) > 0) {
                        return;
                    }
                    due("year()", x.year(), m.year());
            }
        }

        private void keepOrBack() {
            int image = upTo(20) == 0 ? upTo(5) - 2 : upTo(1);
            if (upTo(2) > 0) {
                due("keep(" + image + ")", x.keep(image), m.keep(image));
            } else {
                due("back(" + image + ")", x.back(image), m.back(image));
            }
        }

        private void look() {
            int s = shipNumber();
            int p = partNumber();
            int k = placeNumber();
            int w = what(3);
            switch (upTo(8)) {
                case 0: due("place", x.place(k, w), m.place(k, w)); break;
                case 1: case 2: due("part(" + p + ", " + w + ")", x.part(p, w), m.part(p, w)); break;
                case 3: due("inPlace", x.inPlace(s, k), m.inPlace(s, k)); break;
                case 4: due("ship", x.ship(s, w), m.ship(s, w)); break;
                case 5: {
                    int which = what(4);
                    due("now(" + which + ")", x.now(which), m.nowOf(which));
                    break;
                }
                case 6: {
                    int which = what(4);
                    due("count(" + which + ")", x.count(which), m.count(which));
                    break;
                }
                case 7: {
                    int kind = what(5);
                    due("rate(" + kind + ", " + p + ")", x.rate(kind, p), m.rate(kind, p));
                    break;
                }
                default: due("trace()", x.trace(), m.trace); break;
            }
        }

        private void ask() {
            int s = shipNumber();
            int k = placeNumber();
            int law = law();
            int make = make();
            int w = what(1);
            String at = "(" + s + ", " + law + ")";
            switch (upTo(12)) {
                case 0: due("is" + at, x.is(s, law), m.is(s, law)); break;
                case 1: due("twins(" + law + ")", x.twins(law), m.twins(law)); break;
                case 2: case 3: case 4: {
                    if (m.rows() > FEW_ROWS) {
                        return;
                    }
                    int goal = upTo(30) == 0 ? make : upTo(3);
                    int which = upTo(2) == 0 ? -1 : placeNumber();
                    due("becomes" + at + " " + goal + ", " + which,
                        x.becomes(s, law, goal, which), m.becomes(s, law, goal, which));
                    break;
                }
                case 5: due("stays" + at, x.stays(s, law), m.stays(s, law)); break;
                case 6: due("share", x.share(s, make, w), m.share(s, make, w)); break;
                case 7: due("decides" + at, x.decides(s, law), m.decides(s, law)); break;
                case 8: due("thief" + at + " " + w, x.thief(s, law, w), m.thief(s, law, w)); break;
                case 9: due("saw(" + k + ", " + make + ")", x.saw(k, make), m.saw(k, make)); break;
                case 10: due("mayBe()", x.mayBe(), m.mayBe()); break;
                case 11: due("leastSeen(" + s + ")", x.leastSeen(s), m.leastSeen(s)); break;
                default: {
                    int years = upTo(20) == 0 ? upTo(60) - 10 : upTo(40);
                    due("repairs(" + s + ", " + years + ", " + w + ")",
                        x.repairs(s, years, w), m.repairs(s, years, w));
                    if (upTo(3) == 0) {
                        due("forget()", x.forget(), m.forget());
                    }
                }
            }
        }
    }

    private record Part(int place, int make, int age, int where) {
        private Part at(int there) {
            return new Part(place, make, age, there);
        }
    }

    private record Ship(int owner, List<Integer> parts) { }

    /** Never changed: each call makes another one. */
    private record World(int year, List<Part> parts, List<Ship> ships) { }

    private static final class Model {
        private int n = 3;
        private int[] weight = {1, 1, 1, 1, 1, 1};
        private int[] life = {9, 9, 9, 9, 9, 9};
        private World now = new World(0, List.of(), List.of());
        private final Deque<World> past = new ArrayDeque<>();
        private final World[] images = new World[2];
        private final List<int[]> sights = new ArrayList<>();
        private StringBuilder text = new StringBuilder();
        private long trace = 0;

        private boolean noShip(int s) {
            return s < 0 || s >= now.ships.size();
        }

        private boolean noPart(int p) {
            return p < 0 || p >= now.parts.size();
        }

        private boolean noPlace(int k) {
            return k < 0 || k >= n;
        }

        private static boolean noLaw(int law) {
            return law < 0 || law > 4;
        }

        private static boolean noMake(int make) {
            return !List.of(0, 1, 2, 3, 9).contains(make);
        }

        private int lies(int p) {
            return !noPart(p) && now.parts.get(p).where == 8 ? 1 : 0;
        }

        private List<Integer> yard(int k) {
            List<Integer> lie = new ArrayList<>();
            for (int p = 0; p < now.parts.size(); p++) {
                if (now.parts.get(p).where == 8 && now.parts.get(p).place == k) {
                    lie.add(p);
                }
            }
            return lie;
        }

        private int yardAll() {
            return (int) now.parts.stream().filter(q -> q.where == 8).count();
        }

        private int type(int letter) {
            if (letter < 0 || letter > 255) {
                return -1;
            }
            if (text.length() == 200) {
                return -3;
            }
            text.append((char) letter);
            return text.length();
        }

        private int clear() {
            int had = text.length();
            text = new StringBuilder();
            return had;
        }

        private int port() {
            Parse parse = new Parse(text.toString());
            if (parse.fault >= 0) {
                return -10 - parse.fault;
            }
            n = parse.n;
            weight = parse.weight;
            life = parse.life;
            List<Part> parts = new ArrayList<>();
            List<Ship> ships = new ArrayList<>();
            for (int owner : parse.owners) {
                List<Integer> own = new ArrayList<>();
                for (int k = 0; k < n; k++) {
                    own.add(parts.size());
                    parts.add(new Part(k, ships.size(), 0, ships.size()));
                }
                ships.add(new Ship(owner, own));
            }
            parts.addAll(parse.spares);
            now = new World(0, parts, ships);
            past.clear();
            Arrays.fill(images, null);
            sights.clear();
            clear();
            return parse.items;
        }

        private int place(int k, int what) {
            if (noPlace(k) || what < 0 || what > 2) {
                return -1;
            }
            return what == 0 ? weight[k] : what == 1 ? life[k] : yard(k).size();
        }

        private int part(int p, int what) {
            if (noPart(p) || what < 0 || what > 3) {
                return -1;
            }
            Part q = now.parts.get(p);
            return List.of(q.place, q.make, q.age, q.where).get(what);
        }

        private int inPlace(int s, int k) {
            return noShip(s) || noPlace(k) ? -1 : now.ships.get(s).parts.get(k);
        }

        private int rotten(int s) {
            int bits = 0;
            for (int p : now.ships.get(s).parts) {
                Part q = now.parts.get(p);
                bits += q.age >= life[q.place] ? 1 << q.place : 0;
            }
            return bits;
        }

        private int ship(int s, int what) {
            if (noShip(s) || what < 0 || what > 1) {
                return -1;
            }
            return what == 0 ? now.ships.get(s).owner : rotten(s);
        }

        private List<Part> partsOf(int s) {
            List<Part> list = new ArrayList<>();
            for (int p : now.ships.get(s).parts) {
                list.add(now.parts.get(p));
            }
            return list;
        }

        private int whose(List<Part> parts, int law) {
            TreeMap<Integer, Integer> weights = new TreeMap<>();
            TreeMap<Integer, Integer> many = new TreeMap<>();
            int all = 0;
            for (Part q : parts) {
                weights.merge(q.make, weight[q.place], Integer::sum);
                many.merge(q.make, 1, Integer::sum);
                all += weight[q.place];
            }
            int is = 9;
            if (law == 0) {
                is = parts.get(0).make;
            } else if (law == 3) {
                is = parts.stream().sorted(Comparator.comparingInt((Part q) -> -q.age)
                    .thenComparingInt(q -> q.place)).toList().get(0).make;
            } else if (law == 4) {
                for (int make : many.descendingKeySet()) {
                    is = many.get(make) * 2 >= n ? make : is;
                }
            } else {
                for (int make : weights.keySet()) {
                    boolean wins = law == 1 ? weights.get(make) * 2 > all
                        : weights.entrySet().stream()
                            .allMatch(e -> e.getKey() == make || e.getValue() < weights.get(make));
                    is = wins ? make : is;
                }
            }
            return is == 9 ? -9 : is;
        }

        private int is(int s, int law) {
            return noShip(s) || noLaw(law) ? -1 : whose(partsOf(s), law);
        }

        private int nowOf(int what) {
            int bits = 0;
            switch (what) {
                case 0: return now.year;
                case 1: return yardAll();
                case 2:
                    for (int s = 0; s < now.ships.size(); s++) {
                        bits |= rotten(s) > 0 ? 1 << s : 0;
                    }
                    return bits;
                case 3:
                    for (int law = 0; law < 5; law++) {
                        bits |= twins(law) == -9 ? 1 << law : 0;
                    }
                    return bits;
                case 4: return past.size();
                default: return -1;
            }
        }

        private void next(World world) {
            past.addLast(now);
            if (past.size() > 10) {
                past.removeFirst();
            }
            now = world;
        }

        private int replace(int s, int p) {
            if (noShip(s) || noPart(p)) {
                return -1;
            }
            if (lies(p) == 0) {
                return -2;
            }
            List<Part> parts = new ArrayList<>(now.parts);
            List<Ship> ships = new ArrayList<>(now.ships);
            int k = parts.get(p).place;
            List<Integer> own = new ArrayList<>(ships.get(s).parts);
            int old = own.set(k, p);
            parts.set(p, parts.get(p).at(s));
            parts.set(old, parts.get(old).at(8));
            ships.set(s, new Ship(ships.get(s).owner, own));
            next(new World(now.year, parts, ships));
            return old;
        }

        private int fresh(int k) {
            if (noPlace(k)) {
                return -1;
            }
            if (now.parts.size() == 48) {
                return -3;
            }
            List<Part> parts = new ArrayList<>(now.parts);
            parts.add(new Part(k, 9, 0, 8));
            next(new World(now.year, parts, now.ships));
            return parts.size() - 1;
        }

        private int build() {
            List<Integer> own = new ArrayList<>();
            for (int k = 0; k < n; k++) {
                if (yard(k).isEmpty()) {
                    return -2;
                }
                own.add(yard(k).get(0));
            }
            int s = now.ships.size();
            if (s == 6) {
                return -3;
            }
            List<Part> parts = new ArrayList<>(now.parts);
            for (int p : own) {
                parts.set(p, parts.get(p).at(s));
            }
            List<Ship> ships = new ArrayList<>(now.ships);
            ships.add(new Ship(9, own));
            next(new World(now.year, parts, ships));
            return s;
        }

        private int year() {
            if (now.year == 99) {
                return -2;
            }
            int lost = 0;
            List<Part> parts = new ArrayList<>();
            for (Part q : now.parts) {
                Part older = new Part(q.place, q.make, q.age + 1, q.where);
                boolean goes = q.where == 8 && older.age >= life[q.place];
                parts.add(goes ? older.at(9) : older);
                lost += goes ? 1 : 0;
            }
            next(new World(now.year + 1, parts, now.ships));
            return lost;
        }

        private int undo() {
            if (past.isEmpty()) {
                return -2;
            }
            now = past.removeLast();
            return past.size();
        }

        private int twins(int law) {
            if (noLaw(law)) {
                return -1;
            }
            for (int pair = 1; pair < 60; pair++) {
                int s = pair / 10;
                int t = pair % 10;
                if (s < t && !noShip(t) && is(s, law) != -9 && is(s, law) == is(t, law)) {
                    return pair;
                }
            }
            return -9;
        }

        private int rows() {
            int rows = 1;
            for (int k = 0; k < n; k++) {
                rows *= 1 + yard(k).size();
            }
            return rows;
        }

        private int becomes(int s, int law, int make, int k) {
            if (noShip(s) || noLaw(law) || make < 0 || make > 3 || k < -1 || k >= n) {
                return -1;
            }
            return ofRow(fewestFor(s, law, make), k);
        }

        /** How many are replaced (k is -1), or the part for a place; there may be no row. */
        private static int ofRow(int[] row, int k) {
            if (row == null) {
                return -9;
            }
            return k == -1 ? (int) Arrays.stream(row).filter(p -> p != -5).count() : row[k];
        }

        private int[] fewestFor(int s, int law, int make) {
            int[] best = null;
            int fewest = 99;
            int rows = rows();
            List<List<Integer>> yards = new ArrayList<>();
            for (int place = 0; place < n; place++) {
                yards.add(yard(place));
            }
            for (int number = 0; number < rows; number++) {
                int[] row = new int[n];
                List<Part> parts = partsOf(s);
                int rest = number;
                int replaced = 0;
                // Place 0 turns slowest, so that rows come in their order.
                for (int place = n - 1; place >= 0; place--) {
                    List<Integer> lie = yards.get(place);
                    int choice = rest % (lie.size() + 1);
                    rest /= lie.size() + 1;
                    row[place] = choice == 0 ? -5 : lie.get(choice - 1);
                    if (choice > 0) {
                        parts.set(place, now.parts.get(row[place]));
                        replaced++;
                    }
                }
                if (replaced < fewest && whose(parts, law) == make) {
                    fewest = replaced;
                    best = row;
                }
            }
            return best;
        }

        /** The ship a year on, all that is rotten made new. */
        private List<Part> yearOn(List<Part> parts) {
            List<Part> later = new ArrayList<>();
            for (Part q : parts) {
                boolean goes = q.age + 1 >= life[q.place];
                later.add(goes ? new Part(q.place, 9, 0, 0) : new Part(q.place, q.make, q.age + 1, 0));
            }
            return later;
        }

        private int stays(int s, int law) {
            if (noShip(s) || noLaw(law)) {
                return -1;
            }
            int is = is(s, law);
            List<Part> parts = partsOf(s);
            for (int y = 1; y <= 40 && is != -9; y++) {
                parts = yearOn(parts);
                if (whose(parts, law) != is) {
                    return y;
                }
            }
            return -9;
        }

        private static long side(BigInteger upper, BigInteger lower, int what) {
            BigInteger g = upper.gcd(lower);
            return (what == 0 ? upper : lower).divide(g).longValueExact();
        }

        private int share(int s, int make, int what) {
            if (noShip(s) || noMake(make) || what < 0 || what > 1) {
                return -1;
            }
            int its = 0;
            int all = 0;
            for (Part q : partsOf(s)) {
                its += q.make == make ? weight[q.place] : 0;
                all += weight[q.place];
            }
            return (int) side(BigInteger.valueOf(its), BigInteger.valueOf(all), what);
        }

        private int decides(int s, int law) {
            if (noShip(s) || noLaw(law)) {
                return -1;
            }
            int bits = 0;
            for (int k = 0; k < n; k++) {
                List<Part> parts = partsOf(s);
                parts.set(k, new Part(k, 9, 0, 0));
                bits |= whose(parts, law) != is(s, law) ? 1 << k : 0;
            }
            return bits;
        }

        private long thief(int s, int law, int what) {
            if (noShip(s) || noLaw(law) || what < 0 || what > 1) {
                return -1;
            }
            // The same lower number for all nights: any product of what may lie there.
            BigInteger nights = BigInteger.valueOf(n);
            for (int lie = 1; lie <= 48; lie++) {
                nights = nights.multiply(BigInteger.valueOf(lie));
            }
            BigInteger good = BigInteger.ZERO;
            for (int k = 0; k < n; k++) {
                List<Integer> lie = yard(k);
                BigInteger each = nights.divide(BigInteger.valueOf((long) n * Math.max(1, lie.size())));
                good = lie.isEmpty() ? good.add(each) : good;
                for (int p : lie) {
                    List<Part> parts = partsOf(s);
                    parts.set(k, now.parts.get(p));
                    good = whose(parts, law) == is(s, law) ? good.add(each) : good;
                }
            }
            return side(good, nights, what);
        }

        private int saw(int k, int make) {
            if (noPlace(k) || noMake(make)) {
                return -1;
            }
            if (sights.size() == 6) {
                return -3;
            }
            sights.add(new int[] {k, make});
            return sights.size();
        }

        private int forget() {
            int had = sights.size();
            sights.clear();
            return had;
        }

        private int mayBe() {
            int bits = 0;
            for (int s = 0; s < now.ships.size(); s++) {
                List<Part> parts = partsOf(s);
                bits |= sights.stream().allMatch(g -> parts.get(g[0]).make == g[1]) ? 1 << s : 0;
            }
            return bits;
        }

        private String lookAt(int s, int bits) {
            StringBuilder b = new StringBuilder();
            for (Part q : partsOf(s)) {
                b.append((bits >> q.place) % 2 == 1 ? q.make : -1).append(' ');
            }
            return b.toString();
        }

        private int leastSeen(int s) {
            if (noShip(s)) {
                return -1;
            }
            for (int few = 0; few <= n; few++) {
                for (int bits = 0; bits < 1 << n; bits++) {
                    boolean tells = Integer.bitCount(bits) == few;
                    for (int t = 0; t < now.ships.size(); t++) {
                        tells = tells && (t == s || !lookAt(s, bits).equals(lookAt(t, bits)));
                    }
                    if (tells) {
                        return bits;
                    }
                }
            }
            return -9;
        }

        private int repairs(int s, int years, int what) {
            if (noShip(s) || years < 0 || years > 40 || what < 0 || what > 1) {
                return -1;
            }
            int[] many = new int[41];
            List<Part> parts = partsOf(s);
            for (int y = 1; y <= years; y++) {
                parts = yearOn(parts);
                // Only what has just been made new has age 0 behind a year.
                many[y] = (int) parts.stream().filter(q -> q.age == 0).count();
            }
            int most = Arrays.stream(many).max().getAsInt();
            if (what == 0) {
                return Arrays.stream(many).sum();
            }
            for (int y = 1; y <= years; y++) {
                if (most > 0 && many[y] == most) {
                    return y;
                }
            }
            return -9;
        }

        private int rate(int kind, int p) {
            if (kind < 0 || kind > 5 || noPart(p) || now.parts.get(p).where == 9) {
                return -1000000;
            }
            Part q = now.parts.get(p);
            trace += new int[] {1, 11, 101, 1011, 10101, 100001}[kind];
            return new int[] {q.age, q.age + weight[q.place], q.age - life[q.place],
                2 * (q.age + weight[q.place]), q.age - life[q.place] + q.make, q.age + yardAll()}[kind];
        }

        private int keep(int image) {
            if (image != 0 && image != 1) {
                return -1;
            }
            images[image] = now;
            return now.year;
        }

        private int back(int image) {
            if (image != 0 && image != 1) {
                return -1;
            }
            if (images[image] == null) {
                return -2;
            }
            now = images[image];
            past.clear();
            return now.year;
        }

        private int count(int what) {
            if (what < 0 || what > 4) {
                return -1;
            }
            return List.of(n, now.ships.size(), now.parts.size(), sights.size(), text.length()).get(what);
        }
    }

    /** The text as a list of tokens first, then item by item by what each slot may hold. */
    private static final class Parse {
        private static final Pattern TOKEN = Pattern.compile("[0-9]+|[^ ]", Pattern.DOTALL);
        private int n = 3;
        private final int[] weight = {1, 1, 1, 1, 1, 1};
        private final int[] life = {9, 9, 9, 9, 9, 9};
        private final List<Integer> owners = new ArrayList<>();
        private final List<Part> spares = new ArrayList<>();
        private int items = 0;
        private int fault = -1;

        private Parse(String text) {
            List<String> tokens = new ArrayList<>();
            List<Integer> starts = new ArrayList<>();
            Matcher matcher = TOKEN.matcher(text);
            while (matcher.find()) {
                tokens.add(matcher.group());
                starts.add(matcher.start());
            }
            starts.add(text.length());
            String item = "";
            List<Integer> numbers = new ArrayList<>();
            for (int i = 0; i < tokens.size(); i++) {
                String token = tokens.get(i);
                if (!allowed(item, numbers).test(token)) {
                    fault = starts.get(i);
                    return;
                }
                if (token.equals(";")) {
                    finish(item, numbers);
                    item = "";
                    numbers.clear();
                } else if (item.isEmpty()) {
                    item = token;
                } else {
                    numbers.add(Integer.parseInt(token));
                }
            }
            fault = item.isEmpty() ? -1 : text.length();
        }

        private static java.util.function.Predicate<String> between(int least, int most) {
            return t -> t.matches("0|[1-9][0-9]?") && Integer.parseInt(t) >= least && Integer.parseInt(t) <= most;
        }

        private java.util.function.Predicate<String> allowed(String item, List<Integer> numbers) {
            switch (item + numbers.size()) {
                case "0":
                    return t -> t.equals("n") && items == 0 || t.equals("w") || t.equals("l")
                        || t.equals("s") && owners.size() < 4 || t.equals("y") && spares.size() < 6;
                case "n0": return between(2, 6);
                case "w0": case "l0": case "y0": return between(0, n - 1);
                case "w1": return between(1, 9);
                case "l1": return between(1, 30);
                case "s0": return between(0, 9);
                case "y1": return t -> List.of("0", "1", "2", "3", "9").contains(t);
                case "y2": return between(0, 30);
                default: return t -> t.equals(";");
            }
        }

        private void finish(String item, List<Integer> v) {
            items++;
            switch (item) {
                case "n": n = v.get(0); break;
                case "w": weight[v.get(0)] = v.get(1); break;
                case "l": life[v.get(0)] = v.get(1); break;
                case "s": owners.add(v.get(0)); break;
                default: spares.add(new Part(v.get(0), v.get(1), v.get(2), 8)); break;
            }
        }
    }
}
