import java.util.ArrayList;
import java.util.Arrays;
import java.util.List;
import java.util.Map;
import java.util.Random;
import java.util.TreeMap;

/** Long random runs of all calls, and many texts, against a second program that is as plain as it can be. */
public final class ModelTest {
    private static int wrong = 0;

    public static void main(String[] args) {
        int runs = args.length > 0 ? Integer.parseInt(args[0]) : 1500;
        for (int seed = 0; seed < runs && wrong < 20; seed++) {
            new Run(seed).go();
        }
        for (int seed = 0; seed < runs * 20 && wrong < 20; seed++) {
            readOne(seed);
        }
        System.out.println(wrong == 0 ? "all answers are as the model's" : wrong + " answers are not as the model's");
        if (wrong != 0) {
            System.exit(1);
        }
    }

    private static void readOne(int seed) {
        Random random = new Random(seed * 31L + 7);
        String text = new Writer(random).text(random.nextInt(4) != 0);
        ForestOfPoles real = new ForestOfPoles();
        Model model = new Model();
        for (int i = 0; i < text.length(); i += 20) {
            int[] five = fives(text, i);
            real.feed(five[0], five[1], five[2], five[3], five[4]);
            model.feed(five);
        }
        real.end(text.length());
        model.end(text.length());
        compare("text() of " + show(text), real.text(), model.text());
        compare("fault(0) of " + show(text), real.fault(0), model.fault(0));
        compare("fault(1) of " + show(text), real.fault(1), model.fault(1));
    }

    private static void compare(String what, long got, long want) {
        if (got != want) {
            wrong++;
            System.out.println(what + " answered " + got + ", the model " + want);
        }
    }

    private static String show(String text) {
        return "\"" + text.replace("\n", "\\n") + "\"";
    }

    private static int[] fives(String text, int from) {
        int[] five = new int[5];
        for (int k = 0; k < 20; k++) {
            int b = from + k < text.length() ? text.charAt(from + k) & 255 : 0;
            five[k / 4] |= b << 24 - 8 * (k % 4);
        }
        return five;
    }

    // ---- one run of calls on both

    private static final class Run {
        final Random random;
        final int seed;
        final ForestOfPoles real = new ForestOfPoles();
        Model model = new Model();
        final List<String> calls = new ArrayList<>();
        boolean off = false;

        Run(int seed) {
            this.seed = seed;
            random = new Random(seed);
        }

        /** Some runs end near the last hour. */
        void goFar() {
            for (int i = 0; i < 166; i++) {
                due("hour(60)", real.hour(60), model.hours(60));
            }
            int n = 1 + random.nextInt(39);
            due("hour(" + n + ")", real.hour(n), model.hours(n));
        }

        void go() {
            if (seed % 50 == 7) {
                goFar();
            }
            int poles = random.nextInt(6) + (random.nextInt(5) == 0 ? 4 : 0);
            int powers = 1 + random.nextInt(4);
            for (int i = 0; i < Math.max(poles, powers); i++) {
                if (i < poles) {
                    newPole();
                }
                if (i < powers) {
                    newPower();
                }
            }
            // of an object's 512 calls the dearest turn asks for 80, flag by flag
            for (int i = 0; i < 220 && !off && calls.size() < 430; i++) {
                call();
            }
        }

        void due(String call, long got, long want) {
            calls.add(call + " = " + got);
            if (got != want) {
                wrong++;
                off = true;
                System.out.println("seed " + seed + ": " + call + " answered " + got + ", the model " + want);
                for (String each : calls.subList(Math.max(0, calls.size() - 40), calls.size())) {
                    System.out.println("    " + each);
                }
            }
        }

        int upTo(int n) {
            return random.nextInt(12) == 0 ? random.nextInt(2 * n + 4) - n / 2 - 2 : random.nextInt(Math.max(1, n));
        }

        int aPole() {
            return random.nextInt(25) == 0 ? random.nextInt(12) - 2 : random.nextInt(Math.max(1, model.poles.size()));
        }

        int aPower() {
            return random.nextInt(25) == 0 ? random.nextInt(10) - 2 : random.nextInt(Math.max(1, model.powers.size()));
        }

        void newPole() {
            int tall = random.nextInt(8) == 0 ? random.nextInt(110) - 3 : 1 + random.nextInt(20);
            int place = random.nextInt(8) == 0 ? random.nextInt(110) - 3 : random.nextInt(100);
            due("pole(" + tall + ", " + place + ")", real.pole(tall, place), model.pole(tall, place));
        }

        void newPower() {
            int hands = random.nextInt(12) == 0 ? random.nextInt(13) - 1 : 1 + random.nextInt(9);
            int pattern = random.nextInt(12) == 0 ? random.nextInt(600) - 20 : random.nextInt(random.nextBoolean() ? 512 : 16);
            due("power(" + hands + ", " + pattern + ")", real.power(hands, pattern), model.power(hands, pattern));
        }

        void newText() {
            String text = new Writer(random).text(random.nextInt(8) != 0);
            int n = random.nextInt(12) == 0 ? 0 : text.length();
            for (int i = 0; i < text.length(); i += 20) {
                int[] f = fives(text, i);
                due("feed(" + Arrays.toString(f) + ")", real.feed(f[0], f[1], f[2], f[3], f[4]), model.feed(f));
            }
            due("end(" + n + ")", real.end(n), model.end(n));
            due("text() of " + show(text), real.text(), model.text());
            due("fault(0)", real.fault(0), model.fault(0));
            due("fault(1)", real.fault(1), model.fault(1));
            due("about(7)", real.about(7), model.about(7));
            int t = upTo(Math.max(1, model.texts.size()));
            due("by(" + t + ")", real.by(t) ? 1 : 0, model.by(t) ? 1 : 0);
        }

        void call() {
            int pick = random.nextInt(100);
            if (pick < 45) {
                deed();
            } else if (pick < 62) {
                lookAtState();
            } else if (pick < 80) {
                ask();
            } else {
                askMore();
            }
        }

        void deed() {
            int a = aPower();
            int b = aPole();
            switch (random.nextInt(20)) {
                case 0: newPole(); break;
                case 1: if (random.nextInt(4) == 0) { newPower(); } break;
                case 2: if (random.nextInt(2) == 0) { newText(); } break;
                case 3: int n = random.nextInt(6) == 0 ? upTo(61) : 1 + random.nextInt(5);
                    due("hour(" + n + ")", real.hour(n), model.hours(n)); break;
                case 4: case 5: case 6: due("hour(1)", real.hour(1), model.hours(1)); break;
                case 7: case 8: case 9: case 10: case 11:
                    due("hoist(" + a + ", " + b + ")", real.hoist(a, b) ? 1 : 0, model.hoist(a, b) ? 1 : 0); break;
                case 12: due("lower(" + a + ", " + b + ")", real.lower(a, b) ? 1 : 0, model.lower(a, b) ? 1 : 0); break;
                case 13: int cut = upTo(4);
                    due("prune(" + b + ", " + cut + ")", real.prune(b, cut), model.prune(b, cut)); break;
                case 14: int w = upTo(10);
                    due("blow(" + w + ")", real.blow(w) ? 1 : 0, model.blow(w) ? 1 : 0); break;
                case 15: int t = upTo(Math.max(1, model.texts.size()));
                    due("played(" + t + ")", real.played(t), model.played(t)); break;
                case 16: int s = random.nextInt(10) == 0 ? upTo(10000) : random.nextInt(10000);
                    int m = random.nextInt(10) == 0 ? upTo(41) : 1 + random.nextInt(40);
                    due("centuries(" + s + ", " + m + ")", real.centuries(s, m), model.centuries(s, m)); break;
                case 17: case 18: due("undo()", real.undo(), model.undo()); break;
                default: imageOrBack();
            }
        }

        void imageOrBack() {
            switch (random.nextInt(4)) {
                case 0: due("image()", real.image(), model.image()); break;
                case 1: due("back()", real.back(), model.back()); break;
                default:
                    int t = upTo(Math.max(1, model.texts.size()));
                    due("by(" + t + ")", real.by(t) ? 1 : 0, model.by(t) ? 1 : 0);
            }
        }

        void lookAtState() {
            int a = aPower();
            int b = aPole();
            switch (random.nextInt(7)) {
                case 0: int what = upTo(3);
                    due("ofPole(" + b + ", " + what + ")", real.ofPole(b, what), model.ofPole(b, what)); break;
                case 1: int of = upTo(4);
                    due("ofPower(" + a + ", " + of + ")", real.ofPower(a, of), model.ofPower(a, of)); break;
                case 2: case 3:
                    for (int p = -1; p <= model.poles.size(); p++) {
                        for (int q = -1; q <= model.powers.size(); q++) {
                            int k = upTo(5);
                            due("flag(" + q + ", " + p + ", " + k + ")", real.flag(q, p, k), model.flag(q, p, k));
                        }
                    }
                    break;
                case 4: for (int k = -1; k < 5; k++) { due("is(" + k + ")", real.is(k), model.is(k)); } break;
                case 5:
                    for (int i = -2; i <= model.book.size(); i += 1 + random.nextInt(5)) {
                        int k = i == -1 ? 0 : upTo(2);
                        due("book(" + i + ", " + k + ")", real.book(i, k), model.book(i, k));
                    }
                    break;
                default: for (int k = -1; k < 9; k++) { due("about(" + k + ")", real.about(k), model.about(k)); }
            }
        }

        void ask() {
            int a = aPower();
            int b = aPole();
            int n = random.nextInt(10) == 0 ? upTo(61) : 1 + random.nextInt(20);
            boolean low = random.nextBoolean();
            switch (random.nextInt(9)) {
                case 0: due("foretold(" + n + ")", real.foretold(n), model.foretold(n)); break;
                case 1: due("foretoldHeight(" + n + ", " + a + ", " + b + ")", real.foretoldHeight(n, a, b),
                        model.foretoldHeight(n, a, b)); break;
                case 2: due("foretoldWind(" + n + ")", real.foretoldWind(n), model.foretoldWind(n)); break;
                case 3: int h = random.nextInt(4) == 0 ? -1 : a;
                    due("heldFor(" + h + ")", real.heldFor(h), model.heldFor(h)); break;
                case 4: due("nearest(" + b + ")", real.nearest(b), model.nearest(b)); break;
                case 5: int d = random.nextInt(3) == 0 ? 3 : upTo(4);
                    due("drops(" + a + ", " + d + ", " + low + ")", real.drops(a, d, low), model.drops(a, d, low)); break;
                case 6: int m = random.nextInt(10) == 0 ? upTo(5) : 1 + random.nextInt(model.poles.size() > 4 ? 2 : 3);
                    for (int hour = -2; hour <= m; hour++) {
                        due("hoists(" + a + ", " + m + ", " + hour + ")", real.hoists(a, m, hour), model.hoists(a, m, hour));
                    }
                    break;
                case 7: due("peace(" + a + ")", real.peace(a), model.peace(a)); break;
                default: due("strings(" + b + ")", real.strings(b), model.strings(b));
            }
        }

        void askMore() {
            int a = aPower();
            int b = aPower();
            boolean flip = random.nextBoolean();
            int q = random.nextInt(10) == 0 ? upTo(100) : 1 + random.nextInt(30);
            switch (random.nextInt(13)) {
                case 0: int set = upTo(1 << model.powers.size());
                    due("marks(" + set + ")", real.marks(set), model.marks(set)); break;
                case 1: due("behind(" + a + ")", real.behind(a), model.behind(a)); break;
                case 2: due("afar()", real.afar(), model.afar()); break;
                case 3: due("might(" + a + ", " + q + ", " + flip + ")", real.might(a, q, flip), model.might(a, q, flip)); break;
                case 4: due("veto(" + q + ")", real.veto(q), model.veto(q)); break;
                case 5: int amount = random.nextInt(8) == 0 ? upTo(10000) : random.nextInt(200);
                    due("shares(" + a + ", " + q + ", " + amount + ")", real.shares(a, q, amount), model.shares(a, q, amount)); break;
                case 6: int c = random.nextInt(9) == 0 ? upTo(1000) : random.nextInt(random.nextBoolean() ? 1000 : 30);
                    int t = random.nextInt(9) == 0 ? upTo(100) : random.nextInt(random.nextBoolean() ? 100 : 5);
                    int what = upTo(3);
                    due("change(" + c + ", " + t + ", " + what + ")", real.change(c, t, what), model.change(c, t, what)); break;
                case 7: case 8: int place = random.nextInt(12) == 0 ? -1 : upTo(random.nextBoolean() ? 100 : 20);
                    due("found(" + place + ", " + flip + ")", real.found(place, flip), model.found(place, flip)); break;
                case 9: due("rhythms(" + flip + ")", real.rhythms(flip), model.rhythms(flip)); break;
                case 10: int one = random.nextInt(12) == 0 ? -1 : a;
                    due("ahead(" + one + ", " + b + ")", real.ahead(one, b), model.ahead(one, b)); break;
                case 11: int i = upTo(model.powers.size() + 1) - 1;
                    due("orders(" + i + ")", real.orders(i), model.orders(i)); break;
                default: due("surely(" + a + ", " + b + ")", real.surely(a, b), model.surely(a, b));
            }
        }
    }

    // ---- texts by chance

    private static final class Writer {
        final Random random;
        int law = 0;
        boolean loose = false;

        Writer(Random random) {
            this.random = random;
        }

        String text(boolean sound) {
            StringBuilder s = new StringBuilder();
            List<Integer> laws = new ArrayList<>(List.of(0, 1, 2));
            loose = !sound && random.nextInt(3) == 0;
            int clauses = random.nextInt(sound ? 8 : 30);
            if (!sound && random.nextInt(12) == 0) {
                for (int i = 22 + random.nextInt(5); i > 0; i--) {
                    s.append("hour 1;");
                }
            }
            for (int i = 0; i < clauses; i++) {
                String next;
                if (random.nextInt(3) == 0 && (!sound || !laws.isEmpty())) {
                    law = laws.isEmpty() || !sound && random.nextInt(8) == 0 ? random.nextInt(3) : laws.remove(random.nextInt(laws.size()));
                    next = List.of("climbs ", "tears ", "counts ").get(law) + (law == 2 ? either() : sum(loose ? 11 : 3)) + ";";
                } else {
                    next = deed(sound);
                }
                if (s.length() + next.length() <= 300) {
                    s.append(next);
                    if (random.nextInt(6) == 0 && s.length() < 300) {
                        s.append(random.nextBoolean() ? ' ' : '\n');
                    }
                }
            }
            if (!sound) {
                for (int i = random.nextInt(3); i > 0; i--) {
                    spoil(s);
                }
            }
            s.setLength(Math.min(300, s.length()));
            return s.toString();
        }

        void spoil(StringBuilder s) {
            int at = s.length() == 0 ? 0 : random.nextInt(s.length());
            String[] bits = {"(", ")", ",", ";", "-", "not ", " and ", " or ", " in ", " in (", "<", "<=", ">=", "=", "#", "+", "*",
                "/", "hour", "power", "place", "holds", "pole", "climbs", "counts ", "10000", "7", "!", "\t", "\u00e9", " ", "x", "Hour",
                "((((", "not not ", "----", "1,2,3,4,5,6,7", " at ", " on ", " by ", "00012", "99999999999999"};
            String bit = bits[random.nextInt(bits.length)];
            switch (random.nextInt(4)) {
                case 0: s.insert(at, bit); break;
                case 1: if (s.length() > 0) { s.deleteCharAt(at); } break;
                case 2: s.setLength(at); break;
                default: if (s.length() > 0) { s.replace(at, Math.min(s.length(), at + 1 + random.nextInt(4)), bit); }
            }
        }

        int number(int low, int high, boolean sound) {
            return !sound && random.nextInt(15) == 0 ? random.nextInt(high + 20) : low + random.nextInt(high - low + 1);
        }

        String deed(boolean sound) {
            switch (random.nextInt(7)) {
                case 0: return "pole " + number(1, 30, sound) + " at " + number(0, 99, sound) + ";";
                case 1: return "power " + number(1, 9, sound) + ";";
                case 2: return "hoist " + number(0, 3, sound) + " on " + number(0, 4, sound) + ";";
                case 3: return "lower " + number(0, 3, sound) + " on " + number(0, 4, sound) + ";";
                case 4: return "prune " + number(0, 4, sound) + " by " + number(1, 4, sound) + ";";
                case 5: return "blow " + number(0, 9, sound) + ";";
                default: return "hour " + number(1, random.nextInt(5) == 0 ? 60 : 5, sound) + ";";
            }
        }

        String either() {
            StringBuilder s = new StringBuilder(ask());
            while (random.nextInt(3) == 0) {
                s.append(random.nextBoolean() ? " and " : " or ").append(ask());
            }
            return s.toString();
        }

        String ask() {
            if (random.nextInt(loose ? 2 : 4) == 0) {
                return "not " + ask();
            }
            if (random.nextInt(3) == 0) {
                StringBuilder s = new StringBuilder(sum(1)).append(" in(").append(sum(1));
                for (int i = random.nextInt(loose ? 8 : 5); i > 0; i--) {
                    s.append(",").append(sum(1));
                }
                return s.append(")").toString();
            }
            int depth = loose ? 11 : 2;
            return sum(depth) + List.of("<", "<=", ">", ">=", "=", "#").get(random.nextInt(6)) + sum(depth);
        }

        String sum(int depth) {
            StringBuilder s = new StringBuilder(one(depth));
            while (random.nextInt(5) < 2) {
                s.append("+-*/".charAt(random.nextInt(4))).append(one(depth));
            }
            return s.toString();
        }

        String one(int depth) {
            int pick = random.nextInt(depth > 0 ? loose ? 30 : 12 : 8);
            if (pick < 3) {
                return "" + (random.nextInt(6) == 0 ? random.nextInt(10000) : random.nextInt(12));
            }
            if (pick < 8) {
                String[] names = {"hour", "wind", "power", "hands", "tall", "height", "wear", "here", "place", "holds"};
                String name = names[random.nextInt(names.length)];
                boolean fits = !(law == 0 && name.equals("place") || law == 1 && name.equals("holds"));
                return fits || loose && random.nextInt(3) == 0 ? name : "hands";
            }
            return pick < 10 || pick > 20 ? "-" + one(depth - 1) : "(" + sum(depth - 1) + ")";
        }
    }

    // ---- the second program: a reader by descent

    private static final class Fault extends RuntimeException {
        private static final long serialVersionUID = 1L;
        final int number;
        final int place;

        Fault(int number, int place) {
            this.number = number;
            this.place = place;
        }
    }

    private static final class Node {
        final String kind;
        final List<Node> parts = new ArrayList<>();
        long number;

        Node(String kind, Node... parts) {
            this.kind = kind;
            this.parts.addAll(Arrays.asList(parts));
        }
    }

    private static final class Script {
        final Node[] laws = new Node[3];
        final List<int[]> clauses = new ArrayList<>();
    }

    private static final class Descent {
        static final List<String> KINDS =
            List.of("climbs", "tears", "counts", "pole", "power", "hoist", "lower", "prune", "blow", "hour");
        static final List<String> NAMES =
            List.of("hour", "wind", "power", "hands", "tall", "height", "wear", "here", "place", "holds");
        final List<String> tokens = new ArrayList<>();
        final List<Integer> places = new ArrayList<>();
        int at = 0;
        int depth = 0;
        int law = 0;

        Descent(String text) {
            int i = 0;
            while (i < text.length()) {
                char c = text.charAt(i);
                int from = i;
                if (c == ' ' || c == '\n') {
                    i++;
                    continue;
                }
                if (letter(c)) {
                    while (i < text.length() && letter(text.charAt(i))) { i++; }
                } else if (c >= '0' && c <= '9') {
                    while (i < text.length() && text.charAt(i) >= '0' && text.charAt(i) <= '9') { i++; }
                } else if (text.startsWith("<=", i) || text.startsWith(">=", i)) {
                    i += 2;
                } else {
                    i++;
                }
                tokens.add(text.substring(from, i));
                places.add(from);
            }
            tokens.add("");
            places.add(text.length());
        }

        static boolean letter(char c) {
            return c >= 'a' && c <= 'z' || c >= 'A' && c <= 'Z';
        }

        String peek() {
            return tokens.get(at);
        }

        Fault bad(int number) {
            return new Fault(number, places.get(at));
        }

        void expect(String token) {
            if (!peek().equals(token)) {
                throw bad(1);
            }
            at++;
        }

        boolean isNumber() {
            return !peek().isEmpty() && Character.isDigit(peek().charAt(0)) && peek().charAt(0) < 128;
        }

        int number(int low, int high) {
            if (!isNumber()) {
                throw bad(1);
            }
            java.math.BigInteger value = new java.math.BigInteger(peek());
            if (value.bitLength() > 30 || value.intValue() < low || value.intValue() > high) {
                throw bad(2);
            }
            at++;
            return value.intValue();
        }

        Script script() {
            Script script = new Script();
            while (!peek().isEmpty()) {
                int kind = KINDS.indexOf(peek());
                if (kind < 0) {
                    throw bad(1);
                }
                if (kind < 3 && script.laws[kind] != null) {
                    throw bad(4);
                }
                if (script.clauses.size() == 24) {
                    throw bad(6);
                }
                at++;
                int[] clause = {kind, 0, 0};
                if (kind < 3) {
                    law = kind;
                    script.laws[kind] = kind == 2 ? either() : sum();
                } else {
                    deed(clause);
                }
                expect(";");
                script.clauses.add(clause);
            }
            return script;
        }

        void deed(int[] clause) {
            switch (clause[0]) {
                case 3: clause[1] = number(1, 99); expect("at"); clause[2] = number(0, 99); break;
                case 4: clause[1] = number(1, 9); break;
                case 5: case 6: clause[1] = number(0, 5); expect("on"); clause[2] = number(0, 7); break;
                case 7: clause[1] = number(0, 7); expect("by"); clause[2] = number(1, 99); break;
                case 8: clause[1] = number(0, 9); break;
                default: clause[1] = number(1, 60);
            }
        }

        void deeper() {
            if (depth == 8) {
                throw bad(3);
            }
            depth++;
            at++;
        }

        Node either() {
            Node node = both();
            while (peek().equals("or")) {
                at++;
                node = new Node("or", node, both());
            }
            return node;
        }

        Node both() {
            Node node = ask();
            while (peek().equals("and")) {
                at++;
                node = new Node("and", node, ask());
            }
            return node;
        }

        Node ask() {
            if (peek().equals("not")) {
                deeper();
                Node node = new Node("not", ask());
                depth--;
                return node;
            }
            Node left = sum();
            if (peek().equals("in")) {
                at++;
                if (!peek().equals("(")) {
                    throw bad(1);
                }
                deeper();
                Node node = new Node("in", left, sum());
                while (peek().equals(",")) {
                    if (node.parts.size() == 7) {
                        throw bad(7);
                    }
                    at++;
                    node.parts.add(sum());
                }
                expect(")");
                depth--;
                return node;
            }
            String sign = peek();
            if (!List.of("<", "<=", ">", ">=", "=", "#").contains(sign)) {
                throw bad(1);
            }
            at++;
            return new Node(sign, left, sum());
        }

        Node sum() {
            Node node = product();
            while (peek().equals("+") || peek().equals("-")) {
                String sign = peek();
                at++;
                node = new Node(sign, node, product());
            }
            return node;
        }

        Node product() {
            Node node = one();
            while (peek().equals("*") || peek().equals("/")) {
                String sign = peek();
                at++;
                node = new Node(sign, node, one());
            }
            return node;
        }

        Node one() {
            if (peek().equals("(")) {
                deeper();
                Node node = sum();
                expect(")");
                depth--;
                return node;
            }
            if (peek().equals("-")) {
                deeper();
                Node node = new Node("minus", one());
                depth--;
                return node;
            }
            if (isNumber()) {
                Node node = new Node("number");
                node.number = number(0, 9999);
                return node;
            }
            if (!NAMES.contains(peek())) {
                throw bad(1);
            }
            if (peek().equals("place") && law == 0 || peek().equals("holds") && law == 1) {
                throw bad(5);
            }
            at++;
            return new Node(tokens.get(at - 1));
        }
    }

    // ---- the second program: the forest

    private static final class Model {
        List<int[]> poles = new ArrayList<>(); // told tall, tall, place
        List<int[]> powers = new ArrayList<>(); // hands, pattern
        TreeMap<Integer, int[]> flags = new TreeMap<>(); // pole * 10 + power: height, wear
        List<int[]> book = new ArrayList<>();
        List<Script> texts = new ArrayList<>();
        List<Model> steps = new ArrayList<>();
        List<int[]> finds = new ArrayList<>();
        List<int[]> claims = new ArrayList<>();
        int ruling = -1;
        int wind = 3;
        int hour = 0;
        int holder = -1;
        int x = 79;
        StringBuilder tape = new StringBuilder();
        int fault = -1;
        int faultPlace = -1;
        Model image = null;

        Model copy() {
            Model m = new Model();
            poles.forEach(p -> m.poles.add(p.clone()));
            m.powers.addAll(powers);
            flags.forEach((k, f) -> m.flags.put(k, f.clone()));
            m.book.addAll(book);
            m.texts.addAll(texts);
            m.steps.addAll(steps);
            m.finds.addAll(finds);
            m.claims.addAll(claims);
            m.ruling = ruling;
            m.wind = wind;
            m.hour = hour;
            m.holder = holder;
            m.x = x;
            return m;
        }

        boolean isPole(int p) { return p >= 0 && p < poles.size(); }

        boolean isPower(int p) { return p >= 0 && p < powers.size(); }

        int pole(int tall, int place) {
            if (poles.size() == 8 || tall < 1 || tall > 99 || place < 0 || place > 99) { return -1; }
            poles.add(new int[] {tall, tall, place});
            return poles.size() - 1;
        }

        int power(int hands, int pattern) {
            if (powers.size() == 6 || hands < 1 || hands > 9 || pattern < 0 || pattern > 511) { return -1; }
            powers.add(new int[] {hands, pattern});
            return powers.size() - 1;
        }

        int feed(int[] five) {
            if (tape.length() > 280) { return -1; }
            for (int v : five) {
                for (int shift = 24; shift >= 0; shift -= 8) { tape.append((char) (v >>> shift & 255)); }
            }
            return tape.length();
        }

        int end(int n) {
            if (n < 0 || n > tape.length()) { return -1; }
            tape.setLength(n);
            return n;
        }

        int text() {
            if (texts.size() == 4) { return -1; }
            String read = tape.toString();
            tape.setLength(0);
            try {
                texts.add(new Descent(read).script());
                fault = 0;
                faultPlace = -1;
                return texts.size() - 1;
            } catch (Fault f) {
                fault = f.number;
                faultPlace = f.place;
                return -1;
            }
        }

        int fault(int what) {
            return what == 0 ? fault : what == 1 ? faultPlace : -1;
        }

        boolean by(int t) {
            if (t < -1 || t >= texts.size()) { return false; }
            ruling = t;
            return true;
        }

        long clip(long v) { return Math.max(-1000000, Math.min(1000000, v)); }

        long eval(Node n, int pole, int power) {
            int[] flag = flags.get(pole * 10 + power);
            switch (n.kind) {
                case "number": return n.number;
                case "hour": return hour;
                case "wind": return wind;
                case "power": return power;
                case "hands": return powers.get(power)[0];
                case "tall": return poles.get(pole)[1];
                case "place": return poles.get(pole)[2];
                case "height": return flag[0];
                case "wear": return flag[1];
                case "here": return on(pole);
                case "holds": return holder == power ? 1 : 0;
                case "minus": return -eval(n.parts.get(0), pole, power);
                case "not": return eval(n.parts.get(0), pole, power) == 0 ? 1 : 0;
                case "in":
                    long asked = eval(n.parts.get(0), pole, power);
                    return n.parts.stream().skip(1).anyMatch(p -> eval(p, pole, power) == asked) ? 1 : 0;
                default:
            }
            long a = eval(n.parts.get(0), pole, power);
            long b = eval(n.parts.get(1), pole, power);
            switch (n.kind) {
                case "+": return clip(a + b);
                case "-": return clip(a - b);
                case "*": return clip(a * b);
                case "/": return b == 0 ? 0 : clip(a / b);
                case "<": return a < b ? 1 : 0;
                case "<=": return a <= b ? 1 : 0;
                case ">": return a > b ? 1 : 0;
                case ">=": return a >= b ? 1 : 0;
                case "=": return a == b ? 1 : 0;
                case "#": return a != b ? 1 : 0;
                case "and": return a == 1 && b == 1 ? 1 : 0;
                default: return a == 1 || b == 1 ? 1 : 0;
            }
        }

        Node law(int l) { return ruling == -1 ? null : texts.get(ruling).laws[l]; }

        int climbs(int pole, int power) {
            return law(0) == null ? powers.get(power)[0] : (int) Math.max(-99, Math.min(99, eval(law(0), pole, power)));
        }

        int tears(int pole, int power) {
            return law(1) == null ? wind : (int) Math.max(0, Math.min(100, eval(law(1), pole, power)));
        }

        boolean counts(int pole, int power) {
            return law(2) == null ? flags.get(pole * 10 + power)[0] > 0 : eval(law(2), pole, power) == 1;
        }

        int on(int pole) {
            return flags.subMap(pole * 10, pole * 10 + 10).size();
        }

        int draw() {
            int old = x;
            x = (x * 283 + 181) % 30307;
            return old;
        }

        int look() {
            if (wind == 0) { return -1; }
            int top = -1;
            List<Integer> best = new ArrayList<>();
            for (Map.Entry<Integer, int[]> e : flags.entrySet()) {
                int power = e.getKey() % 10;
                if (!counts(e.getKey() / 10, power)) { continue; }
                if (e.getValue()[0] > top) {
                    top = e.getValue()[0];
                    best.clear();
                }
                if (e.getValue()[0] == top) { best.add(power); }
            }
            if (best.isEmpty()) { return -1; }
            if (best.contains(holder)) { return holder; }
            best.sort((p, q) -> powers.get(p)[0] != powers.get(q)[0] ? powers.get(q)[0] - powers.get(p)[0] : p - q);
            return best.get(0);
        }

        void pass(int nextWind) {
            for (int key : new ArrayList<>(flags.keySet())) {
                int[] f = flags.get(key);
                f[0] = Math.max(0, Math.min(poles.get(key / 10)[1], f[0] + climbs(key / 10, key % 10)));
                f[1] += tears(key / 10, key % 10);
                if (f[1] > 99) { flags.remove(key); }
            }
            int before = holder;
            holder = look();
            if (holder != before) {
                book.add(new int[] {hour, holder});
                if (book.size() > 40) { book.remove(0); }
            }
            hour++;
            wind = nextWind >= 0 ? nextWind : draw() % 10;
        }

        void step() {
            Model before = copy();
            before.steps.clear();
            steps.add(before);
            if (steps.size() > 30) { steps.remove(0); }
        }

        int hours(int n) {
            if (n < 1 || n > 60 || hour + n > 9999) { return -2; }
            for (int i = 0; i < n; i++) {
                step();
                pass(-1);
            }
            return holder;
        }

        boolean canHoist(int a, int b) {
            return isPower(a) && isPole(b) && !flags.containsKey(b * 10 + a) && on(b) < 2;
        }

        boolean hoist(int a, int b) {
            if (!canHoist(a, b)) { return false; }
            step();
            flags.put(b * 10 + a, new int[2]);
            return true;
        }

        boolean lower(int a, int b) {
            if (!isPower(a) || !isPole(b) || !flags.containsKey(b * 10 + a)) { return false; }
            step();
            flags.remove(b * 10 + a);
            return true;
        }

        boolean canPrune(int b, int n) { return isPole(b) && n >= 1 && poles.get(b)[1] - (long) n >= 1; }

        void cut(int b, int n) {
            poles.get(b)[1] -= n;
            flags.subMap(b * 10, b * 10 + 10).values().forEach(f -> f[0] = Math.min(f[0], poles.get(b)[1]));
        }

        int prune(int b, int n) {
            if (!canPrune(b, n)) { return -1; }
            step();
            cut(b, n);
            return poles.get(b)[1];
        }

        boolean blow(int w) {
            if (w < 0 || w > 9 || w == wind) { return false; }
            step();
            wind = w;
            return true;
        }

        int played(int t) {
            if (t < 0 || t >= texts.size()) { return -2; }
            List<int[]> clauses = texts.get(t).clauses;
            for (int i = 0; i < clauses.size(); i++) {
                int[] c = clauses.get(i);
                boolean done = true;
                switch (c[0]) {
                    case 3: done = pole(c[1], c[2]) != -1; break;
                    case 4: done = power(c[1], 0) != -1; break;
                    case 5: done = hoist(c[1], c[2]); break;
                    case 6: done = lower(c[1], c[2]); break;
                    case 7: done = prune(c[1], c[2]) != -1; break;
                    case 8: done = blow(c[1]); break;
                    case 9: for (int k = 0; k < c[1]; k++) { done = hours(1) != -2; } break;
                    default:
                }
                if (!done) { return i; }
            }
            return -1;
        }

        int centuries(int seed, int n) {
            if (seed < 0 || seed > 9999 || n < 1 || n > 40 || poles.isEmpty() || powers.isEmpty()) { return -2; }
            step();
            List<Model> keep = new ArrayList<>(steps);
            x = seed * 2 + 79;
            for (int i = 0; i < n; i++) {
                int d = draw();
                int a = d % powers.size();
                int b = d % poles.size();
                switch (d % 7) {
                    case 0: case 1: hoist(a, b); break;
                    case 2: lower(a, b); break;
                    case 3: prune(b, 1 + d % 3); break;
                    default: if (hour < 9999) { pass(-1); }
                }
            }
            steps = keep;
            return holder;
        }

        int undo() {
            if (steps.isEmpty()) { return -1; }
            Model then = steps.remove(steps.size() - 1);
            flags = new TreeMap<>();
            then.flags.forEach((k, f) -> flags.put(k, f.clone()));
            for (int p = 0; p < poles.size(); p++) {
                poles.get(p)[1] = p < then.poles.size() ? then.poles.get(p)[1] : poles.get(p)[0];
            }
            wind = then.wind;
            hour = then.hour;
            holder = then.holder;
            x = then.x;
            book = new ArrayList<>(then.book);
            return steps.size();
        }

        int ofPole(int b, int what) {
            if (!isPole(b) || what < 0 || what > 2) { return -1; }
            if (what < 2) { return poles.get(b)[1 + what]; }
            return flags.subMap(b * 10, b * 10 + 10).keySet().stream().mapToInt(k -> 1 << k % 10).sum();
        }

        int greatest(int a) {
            return flags.entrySet().stream().filter(e -> e.getKey() % 10 == a).mapToInt(e -> e.getValue()[0]).max().orElse(-1);
        }

        int ofPower(int a, int what) {
            if (!isPower(a) || what < 0 || what > 3) { return -2; }
            if (what < 2) { return powers.get(a)[what]; }
            if (what == 3) { return greatest(a); }
            return flags.keySet().stream().filter(k -> k % 10 == a).mapToInt(k -> 1 << k / 10).sum();
        }

        int flag(int a, int b, int what) {
            if (!isPower(a) || !isPole(b) || !flags.containsKey(b * 10 + a)) { return -100; }
            int[] f = flags.get(b * 10 + a);
            switch (what) {
                case 0: case 1: return f[what];
                case 2: return climbs(b, a);
                case 3: return tears(b, a);
                case 4: return counts(b, a) ? 1 : 0;
                default: return -100;
            }
        }

        int is(int what) {
            return what == 0 ? hour : what == 1 ? wind : what == 2 ? holder : what == 3 ? x : -2;
        }

        int book(int i, int what) {
            if (i == -1) { return book.size(); }
            return i < 0 || i >= book.size() || what < 0 || what > 1 ? -2 : book.get(i)[what];
        }

        Model later(int n) {
            Model m = copy();
            for (int i = 0; i < n; i++) { m.pass(-1); }
            return m;
        }

        int foretold(int n) { return n < 1 || n > 60 ? -2 : later(n).holder; }

        int foretoldHeight(int n, int a, int b) {
            if (n < 1 || n > 60 || !isPower(a) || !isPole(b)) { return -2; }
            int[] f = later(n).flags.get(b * 10 + a);
            return f == null ? -1 : f[0];
        }

        int foretoldWind(int n) { return n < 1 || n > 60 ? -2 : later(n).wind; }

        int heldFor(int a) {
            if (a != -1 && !isPower(a)) { return -2; }
            int[] owner = new int[hour];
            Arrays.fill(owner, -9);
            for (int[] page : book) {
                for (int h = page[0]; h < hour; h++) { owner[h] = page[1]; }
            }
            return (int) Arrays.stream(owner).filter(o -> o == a).count();
        }

        int nearest(int b) {
            if (!isPole(b)) { return -1; }
            for (int far = 0; far < 100; far++) {
                for (int p = 0; p < poles.size(); p++) {
                    if (p != b && Math.abs(poles.get(p)[2] - poles.get(b)[2]) == far) { return p; }
                }
            }
            return -1;
        }

        long ratio(long upper, long lower, boolean low) {
            for (long d = lower; d > 1; d--) {
                if (upper % d == 0 && lower % d == 0) {
                    upper /= d;
                    lower /= d;
                }
            }
            return low ? lower : upper;
        }

        /** Every run of n winds by itself. */
        long drops(int a, int n, boolean low) {
            if (!isPower(a) || n < 0 || n > 3) { return -1; }
            int all = (int) Math.pow(10, n);
            int hits = 0;
            for (int run = 0; run < all; run++) {
                Model m = copy();
                int winds = run;
                for (int i = 0; i < n && m.wind != 0; i++) {
                    m.pass(winds % 10);
                    winds /= 10;
                }
                if (m.wind == 0 && m.holder == a) { hits++; }
            }
            return ratio(hits, all, low);
        }

        /** Every plan by itself; choice 0 is none, choice p + 1 is pole p. */
        int hoists(int a, int n, int wanted) {
            if (!isPower(a) || n < 1 || n > 4 || wanted < -1 || wanted >= n) { return -1; }
            int choices = poles.size() + 1;
            int all = (int) Math.pow(choices, n);
            int fewest = 99;
            int[] best = null;
            for (int plan = 0; plan < all; plan++) {
                int[] at = new int[n];
                int rest = plan;
                for (int i = n - 1; i >= 0; i--) {
                    at[i] = rest % choices;
                    rest /= choices;
                }
                int count = (int) Arrays.stream(at).filter(c -> c > 0).count();
                if (count >= fewest) { continue; }
                Model m = copy();
                for (int c : at) {
                    if (m.canHoist(a, c - 1)) { m.flags.put((c - 1) * 10 + a, new int[2]); }
                    m.pass(-1);
                }
                if (m.holder == a) {
                    fewest = count;
                    best = at;
                }
            }
            if (best == null) { return -1; }
            return wanted == -1 ? fewest : best[wanted] == 0 ? 8 : best[wanted] - 1;
        }

        /** By trial: each pole loses foot by foot till nobody else is that high on it; then its highest is to be as it was. */
        int peace(int a) {
            int top = greatest(a);
            if (!isPower(a) || top < 0) { return -1; }
            Model m = copy();
            int feet = 0;
            for (int b = 0; b < poles.size(); b++) {
                while (m.othersAsHigh(a, b, top)) {
                    if (m.poles.get(b)[1] == 1) { return -1; }
                    m.cut(b, 1);
                    feet++;
                }
            }
            return m.greatest(a) == top ? feet : -1;
        }

        boolean othersAsHigh(int a, int b, int top) {
            boolean high = false;
            for (Map.Entry<Integer, int[]> each : flags.entrySet()) {
                int key = each.getKey();
                high = high || key / 10 == b && key % 10 != a && each.getValue()[0] >= top;
            }
            return high;
        }

        int strings(int b) {
            if (!isPole(b)) { return -1; }
            for (int k = 0; k < poles.get(b)[1]; k++) {
                Model m = copy();
                m.cut(b, k);
                if (m.look() != holder) { return k; }
            }
            return -1;
        }

        int marks(int set) {
            if (set < 0 || set >= 1 << powers.size()) { return -1; }
            for (int size = 0; size <= 9; size++) {
                for (int cells = 0; cells < 512; cells++) {
                    if (Integer.bitCount(cells) != size) { continue; }
                    List<Integer> seen = new ArrayList<>();
                    boolean apart = true;
                    for (int p = 0; p < powers.size(); p++) {
                        if ((set >> p & 1) == 0) { continue; }
                        apart = apart && !seen.contains(powers.get(p)[1] & cells);
                        seen.add(powers.get(p)[1] & cells);
                    }
                    if (apart) { return cells; }
                }
            }
            return -1;
        }

        int behind(int a) {
            if (!isPower(a)) { return -1; }
            int turned = 0;
            for (int cell = 0; cell < 9; cell++) {
                if ((powers.get(a)[1] >> cell & 1) == 1) { turned |= 1 << cell / 3 * 3 + 2 - cell % 3; }
            }
            for (int p = 0; p < powers.size(); p++) {
                if (powers.get(p)[1] == turned) { return p; }
            }
            return -1;
        }

        int afar() {
            int twos = 0;
            for (int p = 0; p < powers.size(); p++) {
                for (int q = 0; q < p; q++) {
                    int one = powers.get(p)[1];
                    int other = powers.get(q)[1];
                    if (Integer.bitCount(one & 7) == Integer.bitCount(other & 7)
                            && Integer.bitCount(one & 56) == Integer.bitCount(other & 56)
                            && Integer.bitCount(one & 448) == Integer.bitCount(other & 448)) { twos++; }
                }
            }
            return twos;
        }

        List<List<Integer>> allOrders() {
            List<List<Integer>> all = new ArrayList<>();
            extend(new ArrayList<>(), all);
            return all;
        }

        void extend(List<Integer> start, List<List<Integer>> all) {
            if (start.size() == powers.size()) {
                all.add(new ArrayList<>(start));
                return;
            }
            for (int p = 0; p < powers.size(); p++) {
                if (!start.contains(p)) {
                    start.add(p);
                    extend(start, all);
                    start.remove(start.size() - 1);
                }
            }
        }

        int[] pivots(int q) {
            int[] count = new int[powers.size()];
            for (List<Integer> order : allOrders()) {
                int sum = 0;
                for (int p : order) {
                    if (sum < q && sum + powers.get(p)[0] >= q) { count[p]++; }
                    sum += powers.get(p)[0];
                }
            }
            return count;
        }

        long might(int a, int q, boolean low) {
            return !isPower(a) || q < 1 || q > 99 ? -1 : ratio(pivots(q)[a], allOrders().size(), low);
        }

        int veto(int q) {
            if (q < 1 || q > 99) { return -1; }
            int all = powers.stream().mapToInt(p -> p[0]).sum();
            int bits = 0;
            for (int p = 0; p < powers.size(); p++) {
                if (all - powers.get(p)[0] < q) { bits += 1 << p; }
            }
            return bits;
        }

        int shares(int a, int q, int amount) {
            if (!isPower(a) || q < 1 || q > 99 || amount < 0 || amount > 9999) { return -1; }
            int[] pivots = pivots(q);
            int orders = allOrders().size();
            int[] part = new int[pivots.length];
            int left = amount;
            for (int p = 0; p < part.length; p++) {
                part[p] = amount * pivots[p] / orders;
                left -= part[p];
            }
            if (Arrays.stream(pivots).sum() == 0) { return 0; }
            int[] rest = new int[part.length];
            for (int p = 0; p < part.length; p++) { rest[p] = amount * pivots[p] % orders; }
            for (; left > 0; left--) {
                int best = 0;
                for (int p = 1; p < part.length; p++) {
                    if (rest[p] > rest[best]) { best = p; }
                }
                part[best]++;
                rest[best] = -1;
            }
            return part[a];
        }

        long change(int c, int t, int what) {
            if (c < 0 || c > 999 || t < 0 || t > 99 || what < 0 || what > 2) { return -1; }
            long[] cost = new long[49];
            int best = 0;
            for (int n = 1; n <= 48; n++) {
                cost[n] = c;
                for (int h = 0; h < n; h++) { cost[n] += Math.min(99, h * t); }
                if (best == 0 || cost[n] * best < cost[best] * n) { best = n; }
            }
            return what == 0 ? best : ratio(cost[best], best, what == 2);
        }

        int found(int place, boolean is) {
            if (place == -1) {
                finds.clear();
                return 0;
            }
            if (place < 0 || place > 99 || finds.size() == 8) { return -2; }
            finds.add(new int[] {place, is ? 1 : 0});
            return finds.size();
        }

        int rhythms(boolean next) {
            List<boolean[]> fit = new ArrayList<>();
            for (int step = 1; step <= 20; step++) {
                for (int first = 0; first < step; first++) {
                    boolean[] has = new boolean[100];
                    for (int p = first; p < 100; p += step) { has[p] = true; }
                    if (finds.stream().allMatch(f -> has[f[0]] == (f[1] == 1))) { fit.add(has); }
                }
            }
            if (!next) { return fit.size(); }
            if (fit.size() < 2) { return -1; }
            int best = -1;
            double least = 1000;
            for (int p = 0; p < 100; p++) {
                int at = p;
                if (finds.stream().anyMatch(f -> f[0] == at)) { continue; }
                double off = Math.abs(fit.stream().filter(h -> h[at]).count() - fit.size() / 2.0);
                if (off < least) {
                    least = off;
                    best = p;
                }
            }
            return best;
        }

        int ahead(int one, int other) {
            if (one == -1) {
                claims.clear();
                return 0;
            }
            if (!isPower(one) || !isPower(other) || one == other || claims.size() == 10) { return -2; }
            claims.add(new int[] {one, other});
            return claims.size();
        }

        List<List<Integer>> sound() {
            List<List<Integer>> all = allOrders();
            all.removeIf(o -> claims.stream().anyMatch(c -> o.indexOf(c[0]) > o.indexOf(c[1])));
            return all;
        }

        int orders(int i) {
            List<List<Integer>> all = sound();
            if (i == -1) { return all.size(); }
            return i < 0 || i >= powers.size() || all.isEmpty() ? -1 : all.get(0).get(i);
        }

        int surely(int one, int other) {
            List<List<Integer>> all = sound();
            if (!isPower(one) || !isPower(other) || one == other || all.isEmpty()) { return -1; }
            return all.stream().allMatch(o -> o.indexOf(one) < o.indexOf(other)) ? 1 : 0;
        }

        int image() {
            image = copy();
            return hour;
        }

        int back() {
            Model from = image == null ? new Model() : image;
            Model m = from.copy();
            poles = m.poles;
            powers = m.powers;
            flags = m.flags;
            book = m.book;
            texts = m.texts;
            steps = m.steps;
            finds = m.finds;
            claims = m.claims;
            ruling = m.ruling;
            wind = m.wind;
            hour = m.hour;
            holder = m.holder;
            x = m.x;
            return hour;
        }

        int about(int what) {
            int[] all = {poles.size(), powers.size(), texts.size(), ruling, steps.size(), finds.size(), claims.size(), tape.length()};
            return what < 0 || what > 7 ? -2 : all[what];
        }
    }
}
