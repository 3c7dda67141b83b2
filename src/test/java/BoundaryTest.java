import java.util.Arrays;

/**
 * Each sentence of the document that names a bound, promise by promise in their order: the call at the bound, the call
 * one beyond it, what each answers, and, where a call is refused or changes nothing, that all stays as it was.
 */
public final class BoundaryTest {
    private static final int MIN = Integer.MIN_VALUE;
    private static final int MAX = Integer.MAX_VALUE;
    private static final int PROMISES = 45;
    private static final int MOST_CALLS = 512;
    private static final int[] CHECKS = new int[PROMISES + 1];
    private static int wrong = 0;
    private static int promise = 0;
    private static String sentence = "";

    private interface Work {
        void on(ForestOfPoles f);
    }

    private interface Call {
        long on(ForestOfPoles f);
    }

    public static void main(String[] args) {
        newObject();
        poles();
        powers();
        feeding();
        ending();
        texts();
        faults();
        ruling();
        hours();
        hoisting();
        lowering();
        pruning();
        blowing();
        playing();
        centuries();
        undoing();
        ofPoles();
        ofPowers();
        flags();
        times();
        bookOfHolders();
        foretelling();
        heldFor();
        nearest();
        drops();
        hoists();
        peace();
        strings();
        marks();
        behindAndAfar();
        mights();
        vetoes();
        shares();
        changing();
        finding();
        rhythms();
        aheads();
        orders();
        surely();
        images();
        about();
        manyCalls();
        for (int i = 1; i <= PROMISES; i++) {
            if (CHECKS[i] == 0) {
                wrong++;
                System.out.println("promise " + i + " has no check");
            }
        }
        System.out.println(wrong == 0 ? "all bounds hold (" + Arrays.stream(CHECKS).sum() + " checks)" : wrong + " bounds don't hold");
        if (wrong != 0) {
            System.exit(1);
        }
    }

    // ---- how it is checked

    private static void says(int number, String words) {
        promise = number;
        sentence = words;
    }

    private static void same(String what, String got, String want) {
        CHECKS[promise]++;
        if (!got.equals(want)) {
            wrong++;
            System.out.println("promise " + promise + " (" + sentence + "): " + what + " answered " + got + ", due is " + want);
        }
    }

    private static void due(String what, long got, long want) {
        same(what, Long.toString(got), Long.toString(want));
    }

    private static void due(String what, boolean got, boolean want) {
        same(what, Boolean.toString(got), Boolean.toString(want));
    }

    private static void row(String what, int[] got, int... want) {
        same(what, Arrays.toString(got), Arrays.toString(want));
    }

    private static ForestOfPoles made(Work... works) {
        ForestOfPoles f = new ForestOfPoles();
        for (Work work : works) {
            work.on(f);
        }
        return f;
    }

    /** Of two like objects the one gets a call: it answers so, and nothing tells the two apart behind it. */
    private static void keeps(String what, Call call, long answer, Work... works) {
        ForestOfPoles f = made(works);
        due(what, call.on(f), answer);
        same(what + ": what can be seen behind it", view(f, true), view(made(works), true));
    }

    private static void refuses(String what, Call call, long answer) {
        keeps(what, call, answer, BoundaryTest::grove);
    }

    private static long one(boolean is) {
        return is ? 1 : 0;
    }

    /** All that can be seen of an object; behind this it is used up, since steps are taken back and the tape is read. */
    private static String view(ForestOfPoles f, boolean withTape) {
        StringBuilder s = new StringBuilder();
        if (withTape) {
            s.append("tape ").append(f.about(7)).append(' ').append(f.fault(0)).append(' ').append(f.fault(1));
        }
        look(f, s);
        for (int i = 0; i < 3; i++) {
            s.append(" undo ").append(f.undo());
            glance(f, s);
        }
        if (withTape) {
            s.append(" text ").append(f.text()).append(' ').append(f.fault(0)).append(' ').append(f.fault(1));
        }
        s.append(" back ").append(f.back());
        glance(f, s);
        return s.toString();
    }

    private static void look(ForestOfPoles f, StringBuilder s) {
        s.append(" about ").append(Arrays.toString(Arrays.copyOf(abouts(f), 7)));
        for (int pole = 0; pole < f.about(0); pole++) {
            s.append(" pole ").append(f.ofPole(pole, 1));
            for (int power = 0; power < f.about(1); power++) {
                if (f.flag(power, pole, 0) != -100) {
                    s.append(" flag ").append(power).append(Arrays.toString(flag(f, power, pole)));
                }
            }
        }
        for (int power = 0; power < f.about(1); power++) {
            s.append(" power ").append(f.ofPower(power, 0)).append(' ').append(f.ofPower(power, 1)).append(' ').append(f.ofPower(power, 3));
        }
        for (int i = 0; i < f.book(-1, 0); i++) {
            s.append(" book ").append(f.book(i, 0)).append(' ').append(f.book(i, 1));
        }
        s.append(" told ").append(f.rhythms(false)).append(' ').append(f.rhythms(true)).append(' ').append(f.orders(-1)).append(' ').append(f.orders(0));
        glance(f, s);
    }

    private static void glance(ForestOfPoles f, StringBuilder s) {
        s.append(" is ").append(Arrays.toString(is(f))).append(f.about(0)).append(f.about(1)).append(f.about(4)).append(f.book(-1, 0));
        for (int pole = 0; pole < f.about(0); pole++) {
            s.append(' ').append(f.ofPole(pole, 0)).append('/').append(f.ofPole(pole, 2));
        }
    }

    private static int[] abouts(ForestOfPoles f) {
        int[] all = new int[8];
        for (int i = 0; i < 8; i++) {
            all[i] = f.about(i);
        }
        return all;
    }

    private static int[] is(ForestOfPoles f) {
        return new int[] {f.is(0), f.is(1), f.is(2), f.is(3)};
    }

    private static int[] flag(ForestOfPoles f, int power, int pole) {
        int[] all = new int[5];
        for (int i = 0; i < 5; i++) {
            all[i] = f.flag(power, pole, i);
        }
        return all;
    }

    private static void put(ForestOfPoles f, String text) {
        f.end(0);
        for (int i = 0; i < text.length(); i += 20) {
            int[] five = new int[5];
            for (int k = 0; k < 20; k++) {
                int b = i + k < text.length() ? text.charAt(i + k) : 0;
                five[k / 4] |= b << 24 - 8 * (k % 4);
            }
            f.feed(five[0], five[1], five[2], five[3], five[4]);
        }
        f.end(text.length());
    }

    private static int read(ForestOfPoles f, String text) {
        put(f, text);
        return f.text();
    }

    /** A forest in which all that can be told has been told, with a text on the tape, a fault, an image and steps. */
    private static void grove(ForestOfPoles f) {
        f.pole(20, 5);
        f.pole(10, 50);
        f.pole(1, 99);
        f.power(4, 7);
        f.power(3, 56);
        f.power(4, 1);
        read(f, "climbs hands;tears wind/2;counts height>0 and wear<90;");
        read(f, "blow 1;hour 1;");
        f.by(0);
        f.hoist(0, 0);
        f.hoist(1, 0);
        f.hoist(2, 1);
        f.hour(2);
        f.image();
        f.prune(1, 2);
        f.found(4, true);
        f.found(5, false);
        f.ahead(0, 1);
        read(f, "blow 10;");
        put(f, "blow 7;");
    }

    /** So many poles of one tall, so many powers with one hand more each, from 1 on. */
    private static Work plain(int poles, int tall, int powers) {
        return f -> {
            for (int i = 0; i < poles; i++) {
                f.pole(tall, i);
            }
            for (int i = 0; i < powers; i++) {
                f.power(i + 1, i);
            }
        };
    }

    private static Work ruled(String laws) {
        return f -> f.by(read(f, laws));
    }

    /** Hours pass up to this one, 9960 at least. */
    private static Work far(int hour) {
        return f -> {
            for (int i = 0; i < 166; i++) {
                f.hour(60);
            }
            if (hour > 9960) {
                f.hour(hour - 9960);
            }
        };
    }

    private static int next(int x) {
        return (x * 283 + 181) % 30307;
    }

    // ---- promises 1 to 3

    private static void newObject() {
        says(1, "No POLES; THE IMAGE is this");
        ForestOfPoles f = new ForestOfPoles();
        row("about", abouts(f), 0, 0, 0, -1, 0, 0, 0, 0);
        row("is", is(f), 0, 3, -1, 79);
        row("no pole, power, flag, page", new int[] {f.ofPole(0, 0), f.ofPower(0, 0), f.flag(0, 0, 0), f.book(-1, 0), f.book(0, 0)}, -1, -2, -100, 0, -2);
        row("nothing to take back, no fault", new int[] {f.undo(), f.fault(0), f.fault(1)}, -1, -1, -1);
        keeps("back() at once", x -> x.back(), 0);
        f = made(plain(8, 99, 6), far(9960));
        read(f, "blow 1;");
        f.found(1, true);
        f.ahead(0, 1);
        due("back()", f.back(), 0);
        row("about", abouts(f), 0, 0, 0, -1, 0, 0, 0, 0);
        row("is", is(f), 0, 3, -1, 79);
        due("no page", f.book(-1, 0), 0);
        says(1, "an object of its own");
        ForestOfPoles one = new ForestOfPoles();
        ForestOfPoles other = new ForestOfPoles();
        grove(one);
        same("another one", view(other, true), view(new ForestOfPoles(), true));
    }

    private static void poles() {
        says(2, "TALL 1 .. 99, PLACE 0 .. 99; NONE for others");
        int[][] others = {{0, 0}, {100, 0}, {1, -1}, {1, 100}, {-1, 0}, {MIN, 0}, {MAX, 0}, {1, MIN}, {1, MAX}, {0, 100}};
        for (int[] o : others) {
            refuses("pole(" + o[0] + ", " + o[1] + ")", f -> f.pole(o[0], o[1]), -1);
        }
        ForestOfPoles f = new ForestOfPoles();
        row("at the bounds", new int[] {f.pole(1, 0), f.pole(99, 99), f.pole(1, 99), f.pole(99, 0)}, 0, 1, 2, 3);
        row("as told, without flags", new int[] {f.ofPole(0, 0), f.ofPole(0, 1), f.ofPole(0, 2), f.ofPole(1, 0), f.ofPole(1, 1), f.ofPole(1, 2)}, 1, 0, 0, 99, 99, 0);
        due("it is no STEP", f.about(4), 0);
        says(2, "POLES 0 .. 7 (told one by one); NONE, if there are 8");
        f = made(plain(7, 5, 0));
        due("the eighth", f.pole(5, 5), 7);
        due("about(0)", f.about(0), 8);
        keeps("the ninth", x -> x.pole(5, 5), -1, plain(8, 5, 1));
        keeps("the ninth, taken back or not", x -> x.pole(5, 5), -1, plain(8, 5, 1), x -> x.hoist(0, 7), x -> x.undo());
    }

    private static void powers() {
        says(3, "HANDS 1 .. 9, a PATTERN (0 .. 511); NONE for others");
        int[][] others = {{0, 0}, {10, 0}, {1, -1}, {1, 512}, {-1, 0}, {MIN, 0}, {MAX, 0}, {1, MIN}, {1, MAX}, {10, 512}};
        for (int[] o : others) {
            refuses("power(" + o[0] + ", " + o[1] + ")", f -> f.power(o[0], o[1]), -1);
        }
        ForestOfPoles f = new ForestOfPoles();
        row("at the bounds", new int[] {f.power(1, 0), f.power(9, 511), f.power(1, 511), f.power(9, 0)}, 0, 1, 2, 3);
        row("as told", new int[] {f.ofPower(0, 0), f.ofPower(0, 1), f.ofPower(1, 0), f.ofPower(1, 1), f.ofPower(1, 2), f.ofPower(1, 3)}, 1, 0, 9, 511, 0, -1);
        due("it is no STEP", f.about(4), 0);
        says(3, "POWERS 0 .. 5 (told one by one); NONE, if there are 6");
        f = made(plain(0, 5, 5));
        due("the sixth", f.power(5, 5), 5);
        due("about(1)", f.about(1), 6);
        keeps("the seventh", x -> x.power(5, 5), -1, plain(1, 5, 6));
    }

    // ---- promises 4 to 7

    private static void feeding() {
        says(4, "Twenty bytes come behind the tape, the highest of a first");
        for (int at = 0; at < 20; at++) {
            ForestOfPoles f = new ForestOfPoles();
            int[] five = new int[5];
            Arrays.fill(five, 0x20202020);
            five[at / 4] ^= 0x20 << 24 - at % 4 * 8;
            due("feed", f.feed(five[0], five[1], five[2], five[3], five[4]), 20);
            f.text();
            row("the byte that is no blank", new int[] {f.fault(0), f.fault(1)}, 1, at);
        }
        ForestOfPoles f = new ForestOfPoles();
        f.feed(0x20202020, 0x20202020, 0x20202020, 0x20202020, 0x20202020);
        due("feed(-1, ..)", f.feed(-1, MIN, MAX, 0, 1), 40);
        f.text();
        row("they come behind", new int[] {f.fault(0), f.fault(1)}, 1, 20);
        says(4, "how many it has. NONE, and none come, if there would be more than 300");
        for (int has = 280; has <= 300; has++) {
            int bytes = has;
            Work full = x -> fill(x, bytes);
            if (has == 280) {
                due("behind 280", made(full).feed(1, 2, 3, 4, 5), 300);
            } else {
                keeps("behind " + has, x -> x.feed(0x626c6f77, 0, 0, 0, 0), -1, full);
            }
        }
    }

    /** A tape of so many bytes: a clause, and blanks. */
    private static void fill(ForestOfPoles f, int bytes) {
        put(f, "blow 7;");
        f.end(0);
        for (int i = 0; i < 15; i++) {
            f.feed(0x626c6f77, 0x20203720, 0x203b2020, 0x20202020, 0x20202020);
        }
        f.end(bytes);
    }

    private static void ending() {
        says(5, "The tape has its first n bytes alone: n");
        ForestOfPoles f = made(x -> put(x, "blow 7;blow 8;"));
        row("as many as it has", new int[] {f.end(14), f.about(7)}, 14, 14);
        row("one less", new int[] {f.end(13), f.about(7)}, 13, 13);
        row("none", new int[] {f.end(0), f.about(7)}, 0, 0);
        row("none of none", new int[] {f.end(0), f.about(7)}, 0, 0);
        f = made(x -> put(x, "blow 7;blow 8;"));
        f.end(7);
        due("the first 7", f.text(), 0);
        f.played(0);
        due("is(1)", f.is(1), 7);
        f = made(x -> fill(x, 300));
        row("300", new int[] {f.end(300), f.about(7)}, 300, 300);
        says(5, "its first n bytes alone: what was behind them is no part of a TOKEN");
        String whole = "counts hour<=77;blow 7;";
        for (int n = 0; n <= whole.length(); n++) {
            int cut = n;
            ForestOfPoles one = made(x -> put(x, whole), x -> x.end(cut));
            ForestOfPoles other = made(x -> put(x, whole.substring(0, cut)));
            row("the first " + n, new int[] {one.text(), one.fault(0), one.fault(1)}, other.text(), other.fault(0), other.fault(1));
        }
        says(5, "NONE, and nothing is done, if it has not so many, or n is below 0");
        for (int n : new int[] {8, -1, 300, 301, MIN, MAX}) {
            refuses("end(" + n + ") of 7", x -> x.end(n), -1);
        }
        keeps("end(1) of none", x -> x.end(1), -1);
        keeps("end(-1) of none", x -> x.end(-1), -1);
        keeps("end(301) of 300", x -> x.end(301), -1, x -> fill(x, 300));
    }

    private static void texts() {
        says(6, "TEXTS 0 .. 3; NONE (the tape stays): there are 4");
        ForestOfPoles f = new ForestOfPoles();
        for (int i = 0; i < 4; i++) {
            row("text " + i, new int[] {read(f, "climbs " + (i + 1) + ";"), f.about(2), f.about(7)}, i, i + 1, 0);
        }
        Work four = x -> {
            plain(1, 50, 1).on(x);
            x.hoist(0, 0);
            for (int i = 0; i < 4; i++) {
                read(x, "climbs " + (i + 1) + ";");
            }
            x.by(2);
        };
        keeps("a fifth", x -> x.text(), -1, four, x -> put(x, "climbs 9;"));
        keeps("a fifth with a fault", x -> x.text(), -1, four, x -> put(x, "climbs"));
        keeps("a fifth of no bytes", x -> x.text(), -1, four);
        f = made(four, x -> put(x, "climbs 9;"));
        f.text();
        for (int i = 0; i < 4; i++) {
            f.by(i);
            due("text " + i + " is as it was", f.flag(0, 0, 2), i + 1);
        }
        says(6, "The tape (empty then) is a TEXT; NONE: it has a FAULT");
        f = made(BoundaryTest::grove, x -> put(x, "climbs 1;climbs 2;"));
        ForestOfPoles twin = made(BoundaryTest::grove);
        row("a fault", new int[] {f.text(), f.about(7), f.about(2)}, -1, 0, 2);
        same("all else stays", view(f, false), view(twin, false));
        row("an empty tape", new int[] {new ForestOfPoles().text()}, 0);
        f = made(plain(1, 9, 1), x -> x.hoist(0, 0), x -> read(x, "climbs 7;climbs"), ruled("tears 8;"));
        row("nothing of one with a fault is left", new int[] {f.about(2), f.about(3), f.flag(0, 0, 2), f.flag(0, 0, 3), f.played(0)}, 1, 0, 1, 8, -1);
        says(6, "of up to 300 bytes");
        f = new ForestOfPoles();
        due("300 bytes", read(f, " ".repeat(293) + "blow 7;"), 0);
        for (String last : new String[] {"blow 7 ", "blow 7", "blow ", "blow", "climbs 1+", "counts 1<", "counts 1<=", "climbs hour", "climbs 1234", "counts 1 in (1", "counts 1=1"}) {
            due("300 bytes, the last of them " + last, read(f, " ".repeat(300 - last.length()) + last), -1);
            row("fault", new int[] {f.fault(0), f.fault(1)}, 1, 300);
        }
        due("300 bytes, the last of them blo", read(f, " ".repeat(297) + "blo"), -1);
        row("fault", new int[] {f.fault(0), f.fault(1)}, 1, 297);
    }

    private static void fault(String text, int number, int place) {
        ForestOfPoles f = new ForestOfPoles();
        String shown = "\"" + text + "\"";
        due("text() of " + shown, read(f, text), number == 0 ? 0 : -1);
        row("fault(0), fault(1) of " + shown, new int[] {f.fault(0), f.fault(1)}, number, place);
    }

    private static void sound(String... all) {
        for (String text : all) {
            fault(text, 0, -1);
        }
    }

    private static void faults() {
        says(7, "NONE for others, and ahead of any");
        ForestOfPoles f = new ForestOfPoles();
        row("ahead of any", new int[] {f.fault(0), f.fault(1), f.fault(-1), f.fault(2)}, -1, -1, -1, -1);
        put(f, "blow 10;");
        row("not read yet", new int[] {f.fault(0), f.fault(1)}, -1, -1);
        f.text();
        row("of one", new int[] {f.fault(0), f.fault(1)}, 2, 5);
        for (int what : new int[] {-1, 2, MIN, MAX}) {
            refuses("fault(" + what + ")", x -> x.fault(what), -1);
        }
        refuses("fault(0)", x -> x.fault(0), 2);
        refuses("fault(1)", x -> x.fault(1), 5);
        says(7, "0 its FAULT (0 without), 1 its place (NONE without)");
        row("without", new int[] {read(f, "blow 9;"), f.fault(0), f.fault(1), f.fault(-1), f.fault(2)}, 0, 0, -1, -1, -1);
        says(7, "the latest text that was read");
        f = made(x -> read(x, ""), x -> read(x, ""), x -> read(x, ""), x -> read(x, "!"), x -> read(x, ""));
        row("the fifth is not read", new int[] {read(f, "  !"), f.fault(0), f.fault(1)}, -1, 0, -1);
        bytes();
        tokens();
        numbers();
        depths();
        clauses();
        names();
        lists();
        ends();
        leastOfOne();
        behindOthers();
    }

    private static void bytes() {
        says(7, "TOKENS, blanks (32, 10) aside; 1 it can't stand there, or is none");
        for (int b = 0; b < 256; b++) {
            boolean blank = b == 32 || b == 10;
            fault("" + (char) b, blank ? 0 : 1, blank ? -1 : 0);
            boolean digit = b >= '0' && b <= '9';
            boolean joins = b == '+' || b == '-' || b == '*' || b == '/' || digit;
            fault("climbs 1" + (char) b + "1;", joins ? 0 : 1, joins ? -1 : blank || b == ';' ? 9 : 8);
            boolean asks = b == '<' || b == '>' || b == '=' || b == '#';
            fault("counts 1" + (char) b + "1;", asks ? 0 : 1, asks ? -1 : joins ? 10 : blank ? 9 : 8);
        }
    }

    private static void tokens() {
        says(7, "letters one behind the other (one TOKEN), digits likewise, signs (the longest)");
        sound("climbs1;", "pole1at1;", "climbs hour+1;", "climbs(1);", "counts 1<=2;", "counts 1>=2;", "counts 1<2;", "counts 1#2;", "climbs\n1\n;",
            "counts not 1=1and 1=1or 1=1;", "counts 1in(1);", "counts 1=-1;", "counts 1<-1;", "climbs 1--1;", "climbs 0000000000009999;");
        fault("climb s 1;", 1, 0);
        fault("climbsz 1;", 1, 0);
        for (char letter : "aAzZ".toCharArray()) {
            fault("climbs" + letter + " 1;", 1, 0);
            fault("climbs hour" + letter + ";", 1, 7);
            fault(letter + "climbs 1;", 1, 0);
        }
        fault("Climbs 1;", 1, 0);
        fault("climb 1;", 1, 0);
        fault("climbs 1 2;", 1, 9);
        fault("climbs hourwind;", 1, 7);
        fault("climbs hour wind;", 1, 12);
        fault("counts 1< =2;", 1, 10);
        fault("counts 1> =2;", 1, 10);
        fault("counts 1<==2;", 1, 10);
        fault("counts 1=<2;", 1, 9);
        fault("counts 1<>2;", 1, 9);
        fault("counts 1##2;", 1, 9);
    }

    private static void numbers() {
        says(7, "2 a NUMBER that isn't one of those told (at its first byte)");
        sound("climbs 0;", "climbs 9999;", "tears 9999;", "counts 9999=9999;", "counts 1 in (9999);", "climbs (9999);", "climbs -9999;");
        fault("climbs 10000;", 2, 7);
        fault("climbs 010000;", 2, 7);
        fault("tears 10000;", 2, 6);
        fault("counts 10000=1;", 2, 7);
        fault("counts 1=10000;", 2, 9);
        fault("counts 1 in (10000);", 2, 13);
        fault("counts 1 in (1,10000);", 2, 15);
        fault("climbs 4294967297;", 2, 7);
        fault("climbs " + "9".repeat(290) + ";", 2, 7);
        sound("pole 1 at 0;", "pole 99 at 99;", "power 1;", "power 9;", "hoist 0 on 0;", "hoist 5 on 7;", "lower 0 on 0;", "lower 5 on 7;",
            "prune 0 by 1;", "prune 7 by 99;", "blow 0;", "blow 9;", "hour 1;", "hour 60;", "pole 0099 at 00;");
        fault("pole 0 at 0;", 2, 5);
        fault("pole 100 at 0;", 2, 5);
        fault("pole 1 at 100;", 2, 10);
        fault("pole 10000 at 0;", 2, 5);
        fault("power 0;", 2, 6);
        fault("power 10;", 2, 6);
        fault("hoist 6 on 0;", 2, 6);
        fault("hoist 0 on 8;", 2, 11);
        fault("lower 6 on 0;", 2, 6);
        fault("lower 0 on 8;", 2, 11);
        fault("prune 8 by 1;", 2, 6);
        fault("prune 0 by 0;", 2, 11);
        fault("prune 0 by 100;", 2, 11);
        fault("blow 10;", 2, 5);
        fault("hour 0;", 2, 5);
        fault("hour 61;", 2, 5);
        fault("hour 4294967297;", 2, 5);
        fault("pole 0 at 100;", 2, 5);
    }

    private static void depths() {
        says(7, "3 the 9th of ( not and - (of one ONE) that are open around one another (at it; the ( of in too)");
        sound("climbs " + "(".repeat(8) + "1" + ")".repeat(8) + ";", "climbs " + "-".repeat(8) + "1;", "tears " + "-(".repeat(4) + "1" + ")".repeat(4) + ";",
            "counts " + "not ".repeat(8) + "1=1;", "counts " + "not ".repeat(7) + "1 in (1);", "counts " + "not ".repeat(6) + "-1=-(1);",
            "counts " + "not ".repeat(4) + "((--1))=1;", "counts 1 in (" + "-".repeat(7) + "1);");
        fault("climbs " + "(".repeat(9) + "1" + ")".repeat(9) + ";", 3, 15);
        fault("climbs " + "(".repeat(9), 3, 15);
        fault("climbs " + "-".repeat(9) + "1;", 3, 15);
        fault("tears " + "-(".repeat(4) + "-1" + ")".repeat(4) + ";", 3, 14);
        fault("tears " + "-(".repeat(4) + "(1)" + ")".repeat(4) + ";", 3, 14);
        fault("counts " + "not ".repeat(9) + "1=1;", 3, 39);
        fault("counts " + "not ".repeat(8) + "-1=1;", 3, 39);
        fault("counts " + "not ".repeat(8) + "(1)=1;", 3, 39);
        fault("counts " + "not ".repeat(8) + "1=(1);", 3, 41);
        fault("counts " + "not ".repeat(8) + "1 in (1);", 3, 44);
        fault("counts " + "not ".repeat(7) + "1 in (-1);", 3, 41);
        fault("counts " + "not ".repeat(7) + "1 in ((1));", 3, 41);
        fault("counts 1 in (" + "-".repeat(8) + "1);", 3, 20);
        says(7, "open around one another: not those that are closed");
        sound("climbs " + "(1)+".repeat(9) + "1;", "climbs " + "-1+".repeat(9) + "1;", "climbs " + "(".repeat(7) + "(1)+(1)*-1" + ")".repeat(7) + ";",
            "climbs " + "-".repeat(8) + "1+" + "-".repeat(8) + "1*" + "-".repeat(8) + "1;", "climbs " + "(1-".repeat(8) + "1" + ")".repeat(8) + ";",
            "counts " + "not ".repeat(8) + "1=1 and " + "not ".repeat(8) + "1=1 or " + "not ".repeat(8) + "1=1;",
            "counts 1 in (1) and 1 in (1) or 1 in (1) and 1 in (1) or 1 in (1) and 1 in (1) or 1 in (1) and 1 in (1) or 1 in (1);",
            "counts " + "-".repeat(8) + "1 in (" + "-".repeat(7) + "1," + "-".repeat(7) + "1);", "counts " + "-".repeat(8) + "1=" + "-".repeat(8) + "1;",
            "climbs " + "(".repeat(8) + "1" + ")".repeat(8) + ";tears " + "(".repeat(8) + "1" + ")".repeat(8) + ";");
    }

    private static void clauses() {
        says(7, "4 climbs, tears, counts for the second time (at it)");
        sound("climbs 1;tears 1;counts 1=1;", "blow 1;blow 1;", "pole 1 at 1;pole 1 at 1;", "power 1;power 1;", "hoist 0 on 0;hoist 0 on 0;",
            "lower 0 on 0;lower 0 on 0;", "prune 0 by 1;prune 0 by 1;", "hour 1;hour 1;");
        fault("climbs 1;climbs 1;", 4, 9);
        fault("tears 1;tears 1;", 4, 8);
        fault("counts 1=1;counts 1=1;", 4, 11);
        fault("climbs 1;tears 1;counts 1=1;\n climbs 1;", 4, 30);
        ForestOfPoles f = made(x -> read(x, "climbs 1;"));
        due("once in each text", read(f, "climbs 1;"), 1);
        says(7, "{CLAUSE}, 24 at most; 6 the 25th CLAUSE (at its first TOKEN)");
        String laws = "climbs 1;tears 1;counts 1=1;";
        sound("", "blow 1;".repeat(23), "blow 1;".repeat(24), laws + "blow 1;".repeat(21), "blow 1;".repeat(24) + " \n ");
        fault("blow 1;".repeat(25), 6, 168);
        fault("blow 1;".repeat(24) + " \n blow", 6, 171);
        fault(laws + "blow 1;".repeat(22), 6, 28 + 147);
        fault("blow 1;".repeat(24) + "climbs 1;", 6, 168);
        fault("blow 1;".repeat(26), 6, 168);
    }

    private static void names() {
        says(7, "5 a NAME that isn't of that CLAUSE (at it)");
        String inAll = "hour+wind+power+hands+tall+height+wear+here";
        sound("climbs " + inAll + "+holds;", "tears " + inAll + "+place;", "counts " + inAll + "+place+holds=1;", "counts 1 in (place,holds);");
        fault("climbs place;", 5, 7);
        fault("climbs 1+(-place);", 5, 11);
        fault("tears holds;", 5, 6);
        fault("tears 1*holds;", 5, 8);
        says(7, "1 it can't stand there: a word that is no NAME");
        for (String word : "climbs tears counts pole hoist lower prune blow at on by or and not in x".split(" ")) {
            fault("climbs " + word + ";", 1, 7);
        }
        for (String word : "climbs tears counts pole hoist lower prune blow at on by or and in x".split(" ")) {
            fault("counts " + word + "=1;", 1, 7);
        }
        for (String word : "at on by or and not in wind hands tall height wear here place holds x".split(" ")) {
            fault(word + " 1;", 1, 0);
        }
    }

    private static void lists() {
        says(7, "in ( SUM {, SUM} ) (6 at most); 7 the , ahead of the 7th SUM of one in (at it)");
        sound("counts 1 in (1);", "counts 1 in (1,2,3,4,5,6);", "counts 1 in (1,2,3,4,5,6) and 1 in (1,2,3,4,5,6);", "counts 1 in ((1),-2,3+4,(5*6),7,8);");
        fault("counts 1 in (1,2,3,4,5,6,7);", 7, 24);
        fault("counts 1 in (1,2,3,4,5,6,", 7, 24);
        fault("counts 1 in (1) or 2 in (1,2,3,4,5,(6),7);", 7, 38);
        fault("counts 1 in ();", 1, 13);
        fault("counts 1 in (1,);", 1, 15);
        fault("counts 1 in (,1);", 1, 13);
        fault("counts 1 in 1;", 1, 12);
        fault("counts 1 in ((1,2));", 1, 15);
        fault("counts (1,2)=1;", 1, 9);
        fault("counts 1=(1,2);", 1, 11);
        fault("counts 1 in 40;", 1, 12);
        fault("counts 1 in -1);", 1, 12);
        fault("counts 1 in hour;", 1, 12);
        fault("counts 1 in (1));", 1, 15);
        fault("counts 1 in (1),1;", 1, 15);
        fault("counts 1,1=1;", 1, 8);
        fault("climbs 1 in (1);", 1, 9);
        fault("counts 1 in (1)*1=1;", 1, 15);
        fault("counts 1 in (1) in (1);", 1, 16);
        fault("counts 1=1 in (1);", 1, 11);
        fault("counts (1 in (1))=1;", 1, 10);
    }

    private static void ends() {
        says(7, "of the end at the length");
        String[] sound = {"climbs 1+(2);", "counts not 1 in (1,2) or 1=1;", "pole 1 at 1;", "power 1;", "hoist 1 on 1;", "lower 1 on 1;", "prune 1 by 1;", "blow 1;", "hour 1;"};
        for (String text : sound) {
            for (int cut = 1; cut < text.length(); cut++) {
                boolean inWord = Character.isLetter(text.charAt(cut - 1)) && Character.isLetter(text.charAt(cut));
                // "in" cut to "i", "not" to "no": such a word is none, at its first byte
                int place = cut;
                while (inWord && place > 0 && Character.isLetter(text.charAt(place - 1))) {
                    place--;
                }
                fault(text.substring(0, cut), 1, place);
                fault(text.substring(0, cut) + " \n", 1, inWord ? place : cut + 2);
            }
            sound(text);
        }
        fault(";", 1, 0);
        fault("blow 1;;", 1, 7);
        fault("climbs ;", 1, 7);
        fault("counts 1;", 1, 8);
        fault("counts ;", 1, 7);
        fault("climbs 1);", 1, 8);
        fault("climbs (1;", 1, 9);
        fault("climbs ();", 1, 8);
        fault("counts 1=1);", 1, 10);
        fault("counts not 1=1);", 1, 14);
        fault("counts (1=1);", 1, 9);
        fault("counts 1=1=1;", 1, 10);
        fault("blow -1;", 1, 5);
        fault("blow 1 1;", 1, 7);
    }

    /** Texts with faults in the midst of a law, and behind each a sound one of the same object. */
    private static void behindOthers() {
        says(7, "Of the latest text that was read, whatever was read ahead of it");
        String[] broken = {"climbs " + "(".repeat(8), "climbs " + "-".repeat(8), "counts " + "not ".repeat(8), "counts 1 in (1,2,3,4,5,6", "counts 1=1 and", "counts 1=", "counts not 1",
            "climbs 1+2*(3", "climbs 7;tears", "blow 1;".repeat(25), "climbs 1;climbs"};
        String[] laws = {"climbs " + "(".repeat(8) + "5" + ")".repeat(8) + ";", "climbs " + "-".repeat(8) + "5;", "counts 5 in (1,2,3,4,5,6);climbs 5;", "counts " + "not ".repeat(8) + "1=1;climbs 5;"};
        for (String first : broken) {
            for (String law : laws) {
                ForestOfPoles f = made(plain(1, 9, 1), x -> x.hoist(0, 0));
                row("behind " + first, new int[] {read(f, first), read(f, law), f.fault(0), f.fault(1)}, -1, 0, 0, -1);
                f.by(0);
                row("its laws", new int[] {f.flag(0, 0, 2), f.flag(0, 0, 3), f.flag(0, 0, 4), f.played(0)}, 5, 3, law.startsWith("counts") ? 1 : 0, -1);
            }
        }
    }

    private static void leastOfOne() {
        says(7, "FAULTS, the first as TOKENS are come to, of one the least");
        fault("blow 1;".repeat(24) + "hands", 1, 168);
        fault("climbs 1;" + "blow 1;".repeat(23) + "climbs 1;", 4, 170);
        fault("climbs 1 10000;", 1, 9);
        fault("blow 1 10000;", 1, 7);
        fault("climbs " + "(".repeat(8) + "1(", 1, 16);
        fault("counts " + "(".repeat(8) + "not", 1, 15);
        fault("climbs 1 place;", 1, 9);
        fault("counts 1 in (1,2,3,4,5,6 6,", 1, 25);
        fault("counts 1 in (1,2,3,4,5,(6,", 1, 25);
        fault("climbs 10000;climbs 1;", 2, 7);
        fault("climbs place+10000;", 5, 7);
        fault("climbs 10000+place;", 2, 7);
        fault("blow 10;!", 2, 5);
    }

    private static void ruling() {
        says(8, "THE TEXT (NONE: none): true. False for others");
        for (int text : new int[] {-2, 2, 3, 4, MIN, MAX}) {
            refuses("by(" + text + ") of 2", f -> one(f.by(text)), 0);
        }
        keeps("by(0) of none", f -> one(f.by(0)), 0);
        keeps("by(4) of 4", f -> one(f.by(4)), 0, f -> read(f, ""), f -> read(f, ""), f -> read(f, ""), f -> read(f, ""), f -> f.by(3));
        keeps("by(-1) of none", f -> one(f.by(-1)), 1);
        refuses("by(0), as it is", f -> one(f.by(0)), 1);
        ForestOfPoles f = made(BoundaryTest::grove);
        due("the first", f.by(0), true);
        due("about(3)", f.about(3), 0);
        due("the last", f.by(1), true);
        due("about(3)", f.about(3), 1);
        due("by(-1)", f.by(-1), true);
        row("none, and no STEP", new int[] {f.about(3), f.about(4), f.undo(), f.about(3)}, -1, 6, 5, -1);
    }

    // ---- promise 9: an hour

    private static void hours() {
        says(9, "HOURS pass (1 .. 60); -2 for others");
        for (int n : new int[] {0, -1, 61, MIN, MAX}) {
            refuses("hour(" + n + ")", f -> f.hour(n), -2);
        }
        ForestOfPoles f = made(plain(1, 9, 1));
        row("1", new int[] {f.hour(1), f.is(0), f.about(4)}, -1, 1, 1);
        row("60", new int[] {f.hour(60), f.is(0), f.about(4)}, -1, 61, 30);
        says(9, "HOUR 0 .. 9999; -2 beyond 9999 (nothing is done then)");
        f = made(plain(2, 9, 2), far(9990), x -> x.hoist(1, 1));
        due("10 from 9990", f.hour(10), -2);
        due("hour", f.is(0), 9990);
        due("9 from 9990", f.hour(9) != -2, true);
        due("hour", f.is(0), 9999);
        due("1 from 9999", f.hour(1), -2);
        due("60 from 9999", f.hour(60), -2);
        keeps("10 from 9990", x -> x.hour(10), -2, plain(2, 9, 2), far(9990), x -> x.hoist(1, 1));
        keeps("60 from 9960", x -> x.hour(60), -2, plain(2, 9, 2), far(9960), x -> x.hoist(1, 1));
        keeps("1 from 9999", x -> x.hour(1), -2, plain(2, 9, 2), far(9999), x -> x.hoist(1, 1));
        says(9, "WIND a draw by 10 (X mod 10, X being (X * 283 + 181) mod 30307 then)");
        f = new ForestOfPoles();
        int x = 79;
        for (int i = 0; i < 60; i++) {
            f.hour(1);
            row("hour, wind, x", new int[] {f.is(0), f.is(1), f.is(3)}, i + 1, x % 10, next(x));
            x = next(x);
        }
        heights();
        wears();
        holders();
        likeOnes();
        written();
    }

    private static int heightBehind(int tall, String first, String second) {
        ForestOfPoles f = made(plain(1, tall, 1), ruled(first), x -> x.hoist(0, 0), x -> x.hour(1), ruled(second), x -> x.hour(1));
        return f.flag(0, 0, 0);
    }

    private static void heights() {
        says(9, "its HEIGHT is more by climbs (TALL at most)");
        row("5 and 5 of 11, 10, 9, 1", new int[] {heightBehind(11, "climbs 5;", "climbs 5;"), heightBehind(10, "climbs 5;", "climbs 5;"),
            heightBehind(9, "climbs 5;", "climbs 5;"), heightBehind(1, "climbs 5;", "climbs 5;")}, 10, 10, 9, 1);
        row("99 and 99 of 99", new int[] {heightBehind(99, "climbs 99;", "climbs 99;"), heightBehind(99, "climbs 98;", "climbs 1;")}, 99, 99);
        says(9, "climbs: -99 at least (0 at least it gets)");
        row("5, less 4, 5, 6, 99", new int[] {heightBehind(9, "climbs 5;", "climbs -4;"), heightBehind(9, "climbs 5;", "climbs -5;"),
            heightBehind(9, "climbs 5;", "climbs -6;"), heightBehind(9, "climbs 5;", "climbs -99;"), heightBehind(9, "climbs -1;", "climbs 0;")}, 1, 0, 0, 0, 0);
        row("99, less 98, 99, 100", new int[] {heightBehind(99, "climbs 99;", "climbs -98;"), heightBehind(99, "climbs 99;", "climbs -99;"),
            heightBehind(99, "climbs 99;", "climbs -100;")}, 1, 0, 0);
    }

    private static int wearBehind(String first, String second) {
        ForestOfPoles f = made(plain(1, 9, 1), ruled(first), x -> x.hoist(0, 0), x -> x.hour(1), ruled(second), x -> x.hour(1));
        return f.flag(0, 0, 1);
    }

    private static void wears() {
        says(9, "then its WEAR by tears: beyond 99 it is gone");
        row("98, 99, 100", new int[] {wearBehind("tears 98;", "tears 0;"), wearBehind("tears 99;", "tears 0;"), wearBehind("tears 100;", "tears 0;")}, 98, 99, -100);
        row("99 and 1, 98 and 1, 98 and 2", new int[] {wearBehind("tears 99;", "tears 1;"), wearBehind("tears 98;", "tears 1;"), wearBehind("tears 98;", "tears 2;")}, -100, 99, -100);
        row("less than 0 is 0", new int[] {wearBehind("tears 7;", "tears -5;")}, 7);
        ForestOfPoles f = made(plain(1, 9, 1), ruled("tears 100;"), x -> x.hoist(0, 0));
        row("the one that is gone doesn't count", new int[] {f.hour(1), f.ofPole(0, 2), f.book(-1, 0)}, -1, 0, 0);
        f = made(plain(1, 9, 1), ruled("climbs 3;tears height*33;"), x -> x.hoist(0, 0));
        row("tears behind climbs", new int[] {f.hour(1), f.flag(0, 0, 1)}, 0, 99);
        says(9, "FLAGS by POLES, on each by POWERS, as all is then");
        f = made(plain(1, 9, 2), ruled("tears (here-1)*100;"), x -> x.hoist(1, 0), x -> x.hoist(0, 0));
        row("the first of two is gone, then the other is alone", new int[] {f.hour(1), f.ofPole(0, 2)}, 1, 2);
        f = made(plain(1, 9, 2), ruled("climbs here;tears (here-1)*(1-power)*100;"), x -> x.hoist(1, 0), x -> x.hoist(0, 0), x -> x.hour(1));
        row("climbs as all is then", new int[] {f.flag(0, 0, 0), f.flag(1, 0, 0)}, -100, 1);
        f = made(plain(1, 9, 1), ruled("climbs 1+holds;tears hour;"), x -> x.hoist(0, 0));
        row("the HOLDER and HOUR as they were", new int[] {f.hour(1), f.flag(0, 0, 0), f.flag(0, 0, 1), f.hour(1), f.flag(0, 0, 0), f.flag(0, 0, 1)}, 0, 1, 0, 0, 3, 1);
    }

    private static void holders() {
        says(9, "Then the HOLDER: if WIND is 0, nobody");
        for (int wind = 0; wind <= 9; wind++) {
            int blown = wind;
            ForestOfPoles f = made(plain(1, 9, 1), x -> x.hoist(0, 0), x -> x.blow(blown));
            due("wind " + wind, f.hour(1), wind == 0 ? -1 : 0);
        }
        says(9, "of all FLAGS of which counts is so the highest; without any nobody");
        ForestOfPoles f = made(plain(2, 9, 2), ruled("climbs 0;"), x -> x.hoist(0, 0));
        due("HEIGHT 0 doesn't count without a law", f.hour(1), -1);
        f = made(plain(2, 9, 2), ruled("climbs 0;counts height=0;"), x -> x.hoist(0, 0));
        due("HEIGHT 0 counts by a law", f.hour(1), 0);
        f = made(plain(2, 9, 2), ruled("climbs 1;"), x -> x.hoist(0, 0));
        due("HEIGHT 1", f.hour(1), 0);
        f = made(plain(2, 9, 2), ruled("counts power=0;"), x -> x.hoist(0, 0), x -> x.hoist(1, 1));
        due("a higher one that doesn't count", f.hour(1), 0);
        f = made(plain(2, 9, 2), ruled("climbs 5-power;"), x -> x.hoist(0, 1), x -> x.hoist(1, 0));
        due("higher by one", f.hour(1), 0);
        due("without flags", made(plain(2, 9, 2)).hour(1), -1);
        due("without poles", made(plain(0, 9, 2)).hour(1), -1);
        due("without powers", made(plain(2, 9, 0)).hour(1), -1);
        due("without anything", new ForestOfPoles().hour(1), -1);
    }

    /** Four powers of 2, 3, 3 and 1 hands; all flags are as high. */
    private static ForestOfPoles alike(int... hoisted) {
        ForestOfPoles f = made(ruled("climbs 5;tears 0;"));
        for (int hands : new int[] {2, 3, 3, 1}) {
            f.power(hands, 0);
        }
        for (int pole = 0; pole < hoisted.length; pole++) {
            f.pole(5, pole);
            f.hoist(hoisted[pole], pole);
        }
        return f;
    }

    private static void likeOnes() {
        says(9, "of like ones the HOLDER as it was, if it is among them");
        ForestOfPoles f = alike(3);
        f.hour(1);
        for (int pole = 1; pole < 4; pole++) {
            f.pole(5, pole);
            f.hoist(pole - 1, pole);
        }
        due("of the fewest HANDS and the highest number", f.hour(1), 3);
        f.prune(0, 1);
        due("no more among them", f.hour(1), 1);
        says(9, "else the one of the most HANDS, of like ones the lowest");
        row("of all orders of poles", new int[] {alike(0, 1, 2, 3).hour(1), alike(3, 2, 1, 0).hour(1), alike(2, 1).hour(1), alike(0, 2).hour(1),
            alike(2, 0).hour(1), alike(3, 0).hour(1), alike(0, 3).hour(1), alike(3).hour(1)}, 1, 1, 1, 2, 2, 0, 0, 3);
    }

    private static void written() {
        says(9, "If it is another one than before, it is written down");
        ForestOfPoles f = made(plain(2, 9, 2), ruled("climbs 1;tears 0;"));
        f.hour(1);
        due("nobody as before", f.book(-1, 0), 0);
        f.hoist(0, 0);
        f.blow(1);
        f.hour(1);
        row("another one", new int[] {f.book(-1, 0), f.book(0, 0), f.book(0, 1)}, 1, 1, 0);
        f.blow(1);
        f.hour(1);
        due("the same one", f.book(-1, 0), 1);
        f.lower(0, 0);
        row("not by lowering", new int[] {f.is(2), f.book(-1, 0)}, 0, 1);
        f.blow(0);
        due("not by the wind", f.book(-1, 0), 1);
        f.hour(1);
        row("nobody then", new int[] {f.book(-1, 0), f.book(1, 0), f.book(1, 1)}, 2, 3, -1);
    }

    // ---- promises 10 to 13

    private static void hoisting() {
        says(10, "on a POLE with fewer than two, on which it has none: HEIGHT 0, WEAR 0");
        ForestOfPoles f = made(plain(2, 9, 4));
        due("on one with none", f.hoist(0, 0), true);
        due("on one with one", f.hoist(1, 0), true);
        due("on one with two", f.hoist(2, 0), false);
        row("powers there, steps", new int[] {f.ofPole(0, 2), f.about(4)}, 3, 2);
        due("on another one too", f.hoist(0, 1), true);
        f.hour(1);
        f.lower(0, 0);
        due("on one with one again", f.hoist(2, 0), true);
        row("flags", new int[] {f.flag(2, 0, 0), f.flag(2, 0, 1), f.flag(1, 0, 0), f.flag(1, 0, 1)}, 0, 0, 2, 3);
        f.lower(1, 0);
        due("anew", f.hoist(1, 0), true);
        row("anew", new int[] {f.flag(1, 0, 0), f.flag(1, 0, 1)}, 0, 0);
        f = made(plain(1, 9, 3), ruled("tears power*50;"), x -> x.hoist(1, 0), x -> x.hoist(2, 0), x -> x.hour(1));
        due("one is torn", f.hoist(0, 0), true);
        says(10, "False, if it can't be, and for others");
        keeps("two are there", x -> one(x.hoist(2, 0)), 0, plain(1, 9, 3), x -> x.hoist(0, 0), x -> x.hoist(1, 0));
        keeps("it is there alone", x -> one(x.hoist(0, 0)), 0, plain(1, 9, 3), x -> x.hoist(0, 0), x -> x.hour(1));
        keeps("it and another one are there", x -> one(x.hoist(0, 0)), 0, plain(1, 9, 3), x -> x.hoist(0, 0), x -> x.hoist(1, 0), x -> x.hour(1));
        for (int[] o : new int[][] {{3, 2}, {-1, 2}, {0, 3}, {0, -1}, {6, 8}, {5, 7}, {MIN, 0}, {0, MIN}, {MAX, 0}, {0, MAX}}) {
            refuses("hoist(" + o[0] + ", " + o[1] + ")", x -> one(x.hoist(o[0], o[1])), 0);
        }
        keeps("hoist(0, 0) of none", x -> one(x.hoist(0, 0)), 0);
        f = made(plain(8, 9, 6));
        due("the last on the last", f.hoist(5, 7), true);
        due("powers there", f.ofPole(7, 2), 32);
    }

    private static void lowering() {
        says(11, "LOWERED: a FLAG is gone: true");
        ForestOfPoles f = made(plain(8, 9, 6), x -> x.hoist(5, 7), x -> x.hoist(0, 7), x -> x.hoist(0, 0), x -> x.hour(1));
        due("lower(5, 7)", f.lower(5, 7), true);
        row("that one alone", new int[] {f.ofPole(7, 2), f.ofPole(0, 2), f.flag(5, 7, 0), f.about(4)}, 1, 1, -100, 5);
        due("the HOLDER stays till the next HOUR", f.is(2), 5);
        says(11, "False, if there is none, and for others");
        keeps("once more", x -> one(x.lower(0, 0)), 0, BoundaryTest::grove, x -> x.lower(0, 0));
        for (int[] o : new int[][] {{2, 0}, {0, 1}, {0, 2}, {3, 0}, {-1, 0}, {0, 3}, {0, -1}, {MIN, 0}, {0, MIN}, {MAX, 0}, {0, MAX}}) {
            refuses("lower(" + o[0] + ", " + o[1] + ")", x -> one(x.lower(o[0], o[1])), 0);
        }
        keeps("lower(0, 0) of none", x -> one(x.lower(0, 0)), 0);
        keeps("one that is torn", x -> one(x.lower(0, 0)), 0, plain(1, 9, 1), ruled("tears 100;"), x -> x.hoist(0, 0), x -> x.hour(1));
    }

    private static void pruning() {
        says(12, "TALL of a POLE is less by n (1 at least stays): TALL then");
        ForestOfPoles f = made(plain(3, 99, 1));
        row("all but one", new int[] {f.prune(0, 98), f.ofPole(0, 0)}, 1, 1);
        row("by one", new int[] {f.prune(1, 1), f.ofPole(1, 0)}, 98, 98);
        row("again", new int[] {f.prune(1, 97), f.ofPole(1, 0), f.about(4)}, 1, 1, 3);
        says(12, "FLAGS above are lowered to it");
        f = made(plain(1, 20, 2), ruled("climbs 6+2*power;"), x -> x.hoist(0, 0), x -> x.hoist(1, 0), x -> x.hour(1));
        row("to 9", new int[] {f.prune(0, 11), f.flag(0, 0, 0), f.flag(1, 0, 0)}, 9, 6, 8);
        row("to 8", new int[] {f.prune(0, 1), f.flag(0, 0, 0), f.flag(1, 0, 0)}, 8, 6, 8);
        row("to 7", new int[] {f.prune(0, 1), f.flag(0, 0, 0), f.flag(1, 0, 0)}, 7, 6, 7);
        row("to 1", new int[] {f.prune(0, 6), f.flag(0, 0, 0), f.flag(1, 0, 0), f.flag(1, 0, 1)}, 1, 1, 1, 3);
        f = made(plain(2, 20, 2), x -> x.hoist(0, 0), x -> x.hoist(1, 1), x -> x.hour(1));
        f.hoist(1, 0);
        row("one at 0 stays, none comes, another POLE stays", new int[] {f.prune(0, 19), f.flag(1, 0, 0), f.flag(0, 0, 0), f.flag(1, 1, 0), f.ofPole(1, 0)}, 1, 0, 1, 2, 20);
        f = made(plain(8, 9, 6), x -> x.hoist(5, 7), x -> x.hoist(0, 7), x -> x.hoist(5, 6), x -> x.hour(1));
        row("the last POLE", new int[] {f.prune(7, 7), f.flag(5, 7, 0), f.flag(0, 7, 0), f.flag(5, 6, 0), f.ofPole(7, 2)}, 2, 2, 1, 6, 33);
        says(12, "NONE, if it can't be, and for others");
        for (int[] o : new int[][] {{0, 20}, {0, 21}, {0, 0}, {0, -1}, {0, MIN}, {0, MAX}, {1, 8}, {2, 1}, {3, 1}, {-1, 1}, {MIN, 1}, {MAX, 1}}) {
            refuses("prune(" + o[0] + ", " + o[1] + ")", x -> x.prune(o[0], o[1]), -1);
        }
        keeps("prune(0, 1) of none", x -> x.prune(0, 1), -1);
        keeps("99 of 99", x -> x.prune(0, 99), -1, plain(1, 99, 1));
    }

    private static void blowing() {
        says(13, "WIND 0 .. 9: true. False for others, and if it is so");
        for (int wind = 0; wind <= 9; wind++) {
            int blown = wind;
            ForestOfPoles f = new ForestOfPoles();
            due("blow(" + wind + ") of 3", f.blow(wind), wind != 3);
            row("wind, steps", new int[] {f.is(1), f.about(4)}, wind, wind == 3 ? 0 : 1);
            keeps("blow(" + wind + ") again", x -> one(x.blow(blown)), 0, BoundaryTest::grove, x -> x.blow(blown));
        }
        for (int wind : new int[] {-1, 10, MIN, MAX}) {
            refuses("blow(" + wind + ")", x -> one(x.blow(wind)), 0);
        }
        keeps("as at first", x -> one(x.blow(3)), 0);
    }

    // ---- promises 14 to 16

    /** What played(0) answers of a script on a forest of one pole (5 tall) and two powers, the first one with a flag. */
    private static void played(String script, int answer) {
        ForestOfPoles f = made(plain(1, 5, 2), x -> x.hoist(0, 0), x -> read(x, script));
        due("played(0) of " + script, f.played(0), answer);
    }

    private static void playing() {
        says(14, "-2 for others");
        for (int text : new int[] {-1, -2, 2, 3, 4, MIN, MAX}) {
            refuses("played(" + text + ") of 2", f -> f.played(text), -2);
        }
        keeps("played(0) of none", f -> f.played(0), -2);
        says(14, "NONE: all is done");
        keeps("a script of nothing", f -> f.played(0), -1, plain(1, 9, 1), f -> read(f, ""), f -> f.hoist(0, 0));
        refuses("a script of laws alone", f -> f.played(0), -1);
        says(14, "its CLAUSES as by hand; one that can't be ends it: its number among all CLAUSES (from 0)");
        played("pole 1 at 0;".repeat(7), -1);
        played("pole 1 at 0;".repeat(8), 7);
        played("power 1;".repeat(4), -1);
        played("power 1;".repeat(5), 4);
        played("hoist 1 on 0;", -1);
        played("hoist 0 on 0;", 0);
        played("hoist 2 on 0;", 0);
        played("hoist 1 on 1;", 0);
        played("hoist 1 on 0;power 1;hoist 2 on 0;", 2);
        played("lower 0 on 0;", -1);
        played("lower 1 on 0;", 0);
        played("lower 0 on 0;lower 0 on 0;", 1);
        played("prune 0 by 4;", -1);
        played("prune 0 by 5;", 0);
        played("prune 1 by 1;", 0);
        played("blow 2;", -1);
        played("blow 3;", 0);
        played("blow 2;climbs 1;blow 2;", 2);
        played("climbs 1;tears 1;counts 1=1;blow 3;", 3);
        played("blow 2;blow 4;".repeat(12), -1);
        played("blow 2;blow 4;".repeat(11) + "blow 2;blow 2;", 23);
        says(14, "what was done stays");
        ForestOfPoles f = made(x -> read(x, "pole 7 at 6;power 8;hoist 0 on 0;hour 1;blow 2;blow 2;prune 0 by 1;"));
        due("played(0)", f.played(0), 5);
        row("poles, powers, steps", new int[] {f.about(0), f.about(1), f.about(4)}, 1, 1, 3);
        row("as told, PATTERN 0", new int[] {f.ofPole(0, 0), f.ofPole(0, 1), f.ofPower(0, 0), f.ofPower(0, 1), f.is(0), f.is(1), f.is(2)}, 7, 6, 8, 0, 1, 2, 0);
        row("each is a STEP of its own", new int[] {f.undo(), f.is(1), f.undo(), f.is(0), f.undo(), f.ofPole(0, 2), f.undo(), f.about(0)}, 2, 9, 1, 0, 0, 0, -1, 1);
        scriptsOfHours();
    }

    private static void scriptsOfHours() {
        says(14, "of so many HOURS those that can pass do");
        ForestOfPoles f = made(x -> read(x, "hour 9;blow 0;blow 1;"), x -> read(x, "hour 10;blow 0;blow 1;"), x -> read(x, "hour 60;"), far(9990));
        f.image();
        row("9 from 9990", new int[] {f.played(0), f.is(0), f.is(1)}, -1, 9999, 1);
        f.back();
        f.hour(9);
        int wind = f.is(1);
        f.back();
        row("10 from 9990", new int[] {f.played(1), f.is(0), f.is(1), f.about(4)}, 0, 9999, wind, 30);
        row("each is a STEP", new int[] {f.undo(), f.is(0), f.undo(), f.is(0)}, 29, 9998, 28, 9997);
        f.back();
        row("60 from 9990", new int[] {f.played(2), f.is(0)}, 0, 9999);
        keeps("60 from 9999", x -> x.played(0), 0, plain(1, 5, 1), x -> read(x, "hour 60;"), far(9999));
        f = made(x -> read(x, "hour 1;hour 60;"));
        row("1 and 60 from 0", new int[] {f.played(0), f.is(0), f.about(4)}, -1, 61, 30);
    }

    private static void centuries() {
        says(15, "SEED (0 .. 9999), n times (1 .. 40); -2 for others");
        for (int[] o : new int[][] {{-1, 1}, {10000, 1}, {0, 0}, {0, 41}, {0, -1}, {MIN, 1}, {MAX, 1}, {0, MIN}, {0, MAX}}) {
            refuses("centuries(" + o[0] + ", " + o[1] + ")", f -> f.centuries(o[0], o[1]), -2);
        }
        ForestOfPoles f = made(BoundaryTest::grove);
        due("centuries(0, 1)", f.centuries(0, 1) >= -1, true);
        due("X of seed 0", f.is(3), next(79));
        due("centuries(9999, 40)", f.centuries(9999, 40) >= -1, true);
        f.centuries(9999, 1);
        // 20077 mod 7 is 1
        due("X of seed 9999", f.is(3), next(20077));
        says(15, "-2 without POLES or POWERS");
        keeps("without both", x -> x.centuries(0, 1), -2);
        keeps("without POLES", x -> x.centuries(0, 1), -2, plain(0, 9, 6));
        keeps("without POWERS", x -> x.centuries(0, 1), -2, plain(8, 9, 0));
        due("one of each", made(plain(1, 9, 1)).centuries(0, 1), -1);
        draws();
        lastDraws();
    }

    private static void draws() {
        says(15, "0, 1 the POWER x mod how many there are HOISTS on POLE x mod how many there are; 2 that FLAG is LOWERED");
        // 91 mod 7 is 0, 85 mod 7 is 1; of 5 poles and 4 powers: 91 is pole 1, power 3; 85 is pole 0, power 1
        ForestOfPoles f = made(plain(5, 9, 4));
        f.centuries(6, 1);
        f.centuries(3, 1);
        row("hoisted", new int[] {f.ofPole(1, 2), f.ofPole(0, 2), f.about(4)}, 8, 2, 2);
        f.centuries(6, 1);
        row("it has one there: a STEP all the same", new int[] {f.ofPole(1, 2), f.about(4), f.is(3)}, 8, 3, next(91));
        // 79 mod 7 is 2: pole 4, power 3
        f.hoist(3, 4);
        f.hour(1);
        f.centuries(0, 1);
        row("lowered", new int[] {f.ofPole(4, 2), f.ofPole(1, 2)}, 0, 8);
        f.centuries(0, 1);
        row("none there", new int[] {f.ofPole(4, 2), f.is(3), f.about(4)}, 0, next(79), 7);
        f = made(plain(1, 9, 3), x -> x.hoist(0, 0), x -> x.hoist(2, 0), x -> x.centuries(3, 1));
        row("two are there", new int[] {f.ofPole(0, 2)}, 5);
        says(15, "3 that POLE is PRUNED by 1 and x mod 3 (each if it can be)");
        // 87, 115, 101: mod 7 3, mod 3 0, 1, 2
        int[] seeds = {4, 18, 11};
        for (int less = 1; less <= 3; less++) {
            int seed = seeds[less - 1];
            for (int tall = 1; tall <= 5; tall++) {
                f = made(plain(1, tall, 1), x -> x.centuries(seed, 1));
                row("by " + less + " of " + tall, new int[] {f.ofPole(0, 0), f.about(4)}, tall > less ? tall - less : tall, 1);
            }
        }
        says(15, "else an HOUR; it is one STEP");
        // 81, 89, 83 mod 7 are 4, 5, 6
        for (int seed : new int[] {1, 5, 2}) {
            int x = next(2 * seed + 79);
            f = made(plain(1, 9, 1), y -> y.hoist(0, 0));
            row("an hour by seed " + seed, new int[] {f.centuries(seed, 1), f.is(0), f.is(1), f.is(3), f.about(4), f.book(0, 0)}, 0, 1, x % 10, next(x), 2, 0);
        }
        f = made(BoundaryTest::grove);
        row("40 draws, taken back at once", new int[] {f.about(4), f.centuries(77, 40) < -1 ? 1 : 0, f.about(4), f.undo()}, 6, 0, 7, 6);
        same("all as ahead of it", view(f, true), view(made(BoundaryTest::grove), true));
    }

    private static void lastDraws() {
        says(15, "else an HOUR (9999 stays: then nothing)");
        ForestOfPoles f = made(plain(1, 9, 1), far(9999), x -> x.hoist(0, 0), x -> x.blow(5), x -> x.blow(6));
        f.centuries(1, 1);
        row("at 9999", new int[] {f.is(0), f.is(1), f.is(3), f.flag(0, 0, 0), f.about(4)}, 9999, 6, next(81), 0, 30);
        row("it is a STEP", new int[] {f.undo(), f.is(1), f.undo(), f.is(1)}, 29, 6, 28, 5);
        int seed = 0;
        // the first draw is an hour, which draws once more, and the second one would be one
        while ((2 * seed + 79) % 7 < 4 || next(next(2 * seed + 79)) % 7 < 4) {
            seed++;
        }
        int x = 2 * seed + 79;
        f = made(plain(1, 9, 1), far(9998), y -> y.blow(5));
        f.centuries(seed, 2);
        row("at 9998, two", new int[] {f.is(0), f.is(1), f.is(3)}, 9999, next(x) % 10, next(next(next(x))));
    }

    private static void undoing() {
        says(16, "how many can be yet. NONE: there is none");
        keeps("of none", f -> f.undo(), -1);
        keeps("of none, poles and powers told", f -> f.undo(), -1, plain(2, 9, 2), ruled("climbs 1;"), f -> f.found(1, true), f -> f.ahead(0, 1));
        ForestOfPoles f = made(plain(1, 9, 1), x -> x.blow(1));
        row("of one", new int[] {f.undo(), f.is(1), f.undo(), f.is(1)}, 0, 3, -1, 3);
        says(16, "the latest 30 can be taken back, the latest first");
        for (int steps = 29; steps <= 32; steps++) {
            f = made(plain(1, 9, 1));
            for (int i = 0; i < steps; i++) {
                f.blow(4 + i % 2);
            }
            int can = Math.min(30, steps);
            due("of " + steps, f.about(4), can);
            for (int i = can - 1; i >= 0; i--) {
                due("undo", f.undo(), i);
                int left = steps - can + i;
                due("wind", f.is(1), left == 0 ? 3 : 4 + (left - 1) % 2);
            }
            due("no more", f.undo(), -1);
        }
        f = made(plain(1, 9, 1), x -> x.hour(60));
        for (int i = 29; i >= 0; i--) {
            row("an HOUR (each)", new int[] {f.undo(), f.is(0)}, i, 30 + i);
        }
        row("none", new int[] {f.undo(), f.is(0)}, -1, 30);
        says(16, "the latest 30: behind one taken back a further one can be");
        f = made(plain(1, 9, 1), x -> x.hour(31));
        f.undo();
        f.hour(2);
        row("steps", new int[] {f.about(4), f.is(0)}, 30, 32);
        for (int i = 29; i >= 0; i--) {
            row("undo", new int[] {f.undo(), f.is(0)}, i, 2 + i);
        }
        eachStep();
        toldSince();
    }

    private static void eachStep() {
        says(16, "STEPS: an HOUR, HOISTED, LOWERED, PRUNED, BLOWN, CENTURIES: all are as ahead of it");
        Work[] steps = {x -> x.hour(1), x -> x.hoist(2, 2), x -> x.lower(0, 0), x -> x.prune(0, 19), x -> x.blow(x.is(1) == 0 ? 1 : 0), x -> x.centuries(5, 40)};
        for (Work step : steps) {
            ForestOfPoles f = made(BoundaryTest::grove, step);
            row("one more, then as many as ahead of it", new int[] {f.about(4), f.undo()}, 7, 6);
            same("all", view(f, true), view(made(BoundaryTest::grove), true));
        }
        says(16, "HOLDER, BOOK as ahead of it");
        ForestOfPoles f = made(plain(1, 9, 3), ruled("climbs 1;tears 0;counts power=2-hour;"), x -> x.hoist(2, 0), x -> x.hoist(1, 0), x -> x.hour(1));
        f.blow(1);
        f.hour(1);
        f.blow(0);
        f.hour(1);
        row("nobody, 1, 2", new int[] {f.is(2), f.book(-1, 0), f.book(0, 1), f.book(1, 1), f.book(2, 1)}, -1, 3, 2, 1, -1);
        row("1", new int[] {f.undo(), f.is(2), f.book(-1, 0), f.book(0, 1), f.book(1, 1), f.book(2, 1)}, 6, 1, 2, 2, 1, -2);
        row("2", new int[] {f.undo(), f.undo(), f.is(2), f.book(-1, 0), f.book(0, 1)}, 5, 4, 2, 1, 2);
        row("nobody", new int[] {f.undo(), f.undo(), f.is(2), f.book(-1, 0)}, 3, 2, -1, 0);
        f = made(BoundaryTest::fullBook);
        f.blow(1);
        due("of 40 the eldest", f.book(0, 0), 0);
        f.hour(1);
        row("one more: the eldest is gone", new int[] {f.book(-1, 0), f.book(0, 0), f.book(0, 1), f.book(39, 0), f.book(39, 1)}, 40, 1, 1, 40, 0);
        f.undo();
        row("it is there again", new int[] {f.book(-1, 0), f.book(0, 0), f.book(0, 1), f.book(39, 0), f.book(39, 1)}, 40, 0, 0, 39, 1);
    }

    private static void toldSince() {
        says(16, "POLES told since are as TALL as told, without FLAGS");
        ForestOfPoles f = made(plain(1, 9, 1), x -> x.blow(1), x -> x.pole(50, 7), x -> x.power(9, 9));
        f.prune(1, 10);
        f.hoist(0, 1);
        f.hoist(1, 1);
        f.hoist(1, 0);
        f.hour(1);
        for (int i = 4; i >= 1; i--) {
            f.undo();
        }
        row("pruned yet", new int[] {f.about(4), f.ofPole(1, 0), f.ofPole(1, 2)}, 2, 40, 0);
        row("as told", new int[] {f.undo(), f.ofPole(1, 0), f.ofPole(1, 2), f.undo(), f.ofPole(1, 0), f.ofPole(1, 1), f.ofPole(1, 2), f.ofPole(0, 2)}, 1, 50, 0, 0, 50, 7, 0, 0);
        row("poles and powers stay", new int[] {f.about(0), f.about(1), f.ofPower(1, 0), f.is(1)}, 2, 2, 9, 3);
        // the step ahead of which it was told is taken back while it is cut and has flags
        f = made(plain(1, 9, 1), x -> x.hour(29), x -> x.pole(50, 7), x -> x.prune(1, 49), x -> x.hoist(0, 1));
        for (int i = 29; i >= 0; i--) {
            f.undo();
        }
        row("of 31 steps", new int[] {f.is(0), f.ofPole(1, 0), f.ofPole(1, 2)}, 1, 50, 0);
    }

    // ---- promises 17 to 21

    private static void ofPoles() {
        says(17, "Of a POLE: 0 TALL, 1 PLACE, 2 POWERS with a FLAG there (bits). NONE for others");
        for (int what : new int[] {-1, 3, MIN, MAX}) {
            refuses("ofPole(0, " + what + ")", f -> f.ofPole(0, what), -1);
        }
        for (int pole : new int[] {-1, 3, 7, 8, MIN, MAX}) {
            for (int what = 0; what <= 2; what++) {
                int asked = what;
                refuses("ofPole(" + pole + ", " + what + ")", f -> f.ofPole(pole, asked), -1);
            }
        }
        refuses("ofPole(0, 0)", f -> f.ofPole(0, 0), 20);
        refuses("ofPole(1, 0)", f -> f.ofPole(1, 0), 8);
        refuses("ofPole(2, 1)", f -> f.ofPole(2, 1), 99);
        refuses("ofPole(0, 2)", f -> f.ofPole(0, 2), 3);
        refuses("ofPole(2, 2)", f -> f.ofPole(2, 2), 0);
        ForestOfPoles f = made(plain(8, 9, 6), x -> x.hoist(0, 7), x -> x.hoist(5, 7));
        row("the lowest and the highest POWER on the last POLE", new int[] {f.ofPole(7, 2), f.ofPole(7, 0), f.ofPole(7, 1), f.ofPole(8, 0)}, 33, 9, 7, -1);
        keeps("of none", x -> x.ofPole(0, 0), -1);
    }

    private static void ofPowers() {
        says(18, "Of a POWER: 0 HANDS, 1 PATTERN, 2 POLES with a FLAG of it (bits), 3 its greatest HEIGHT (NONE). -2 for others");
        for (int what : new int[] {-1, 4, MIN, MAX}) {
            refuses("ofPower(0, " + what + ")", f -> f.ofPower(0, what), -2);
        }
        for (int power : new int[] {-1, 3, 5, 6, MIN, MAX}) {
            for (int what = 0; what <= 3; what++) {
                int asked = what;
                refuses("ofPower(" + power + ", " + what + ")", f -> f.ofPower(power, asked), -2);
            }
        }
        refuses("ofPower(0, 0)", f -> f.ofPower(0, 0), 4);
        refuses("ofPower(2, 1)", f -> f.ofPower(2, 1), 1);
        refuses("ofPower(2, 2)", f -> f.ofPower(2, 2), 2);
        refuses("ofPower(0, 3)", f -> f.ofPower(0, 3), 8);
        ForestOfPoles f = made(plain(8, 9, 6));
        row("no flag", new int[] {f.ofPower(5, 2), f.ofPower(5, 3), f.ofPower(5, 0), f.ofPower(6, 0)}, 0, -1, 6, -2);
        f.hoist(5, 7);
        row("one at 0", new int[] {f.ofPower(5, 2), f.ofPower(5, 3)}, 128, 0);
        f.hour(1);
        f.hoist(5, 0);
        row("the greatest of 0 and 6", new int[] {f.ofPower(5, 2), f.ofPower(5, 3)}, 129, 6);
        keeps("of none", x -> x.ofPower(0, 0), -2);
    }

    /** What a law says of the flag of power 2 (4 hands) on pole 1 (10 tall, at 50). */
    private static int law(String text, int what) {
        ForestOfPoles f = made(x -> x.pole(20, 5), x -> x.pole(10, 50), x -> x.power(4, 7), x -> x.power(3, 56), x -> x.power(4, 1), ruled(text), x -> x.hoist(2, 1));
        return f.flag(2, 1, what);
    }

    private static int climbs(String sum) {
        return law("climbs " + sum + ";", 2);
    }

    private static int counts(String ask) {
        return law("counts " + ask + ";", 4);
    }

    private static void flags() {
        says(19, "Of a FLAG: 0 HEIGHT, 1 WEAR, 2 climbs now, 3 tears now, 4 whether it counts (1, 0). -100 for others, and if there is none");
        for (int what : new int[] {-1, 5, MIN, MAX}) {
            refuses("flag(0, 0, " + what + ")", f -> f.flag(0, 0, what), -100);
        }
        for (int[] o : new int[][] {{0, 1}, {2, 0}, {2, 2}, {-1, 0}, {3, 0}, {0, -1}, {0, 3}, {6, 0}, {0, 8}, {MIN, 0}, {MAX, 0}, {0, MIN}, {0, MAX}}) {
            for (int what = 0; what <= 4; what++) {
                int asked = what;
                refuses("flag(" + o[0] + ", " + o[1] + ", " + what + ")", f -> f.flag(o[0], o[1], asked), -100);
            }
        }
        // winds 3 and 9 tore it by 1 and by 4; it is 8 now
        int[] all = {8, 5, 4, 4, 1};
        for (int what = 0; what <= 4; what++) {
            int asked = what;
            refuses("flag(0, 0, " + what + ")", f -> f.flag(0, 0, asked), all[what]);
        }
        says(19, "climbs: -99 at least, 99 at most; without: HANDS");
        row("98, 99, 100, 9999", new int[] {climbs("98"), climbs("99"), climbs("100"), climbs("9999")}, 98, 99, 99, 99);
        row("-98, -99, -100, -9999", new int[] {climbs("-98"), climbs("-99"), climbs("-100"), climbs("-9999")}, -98, -99, -99, -99);
        row("without", new int[] {law("tears 1;", 2), law("", 2)}, 4, 4);
        says(19, "tears: 0 at least, 100 at most; without: WIND");
        row("-1, 0, 1", new int[] {law("tears -1;", 3), law("tears 0;", 3), law("tears 1;", 3)}, 0, 0, 1);
        row("99, 100, 101", new int[] {law("tears 99;", 3), law("tears 100;", 3), law("tears 101;", 3)}, 99, 100, 100);
        row("without", new int[] {law("climbs 1;", 3), law("", 3)}, 3, 3);
        says(19, "counts without: if HEIGHT is above 0");
        row("at 0", new int[] {law("", 4), law("counts height=0;", 4)}, 0, 1);
        ForestOfPoles f = made(plain(1, 9, 1), x -> x.hoist(0, 0), x -> x.hour(1));
        row("at 1", new int[] {f.flag(0, 0, 0), f.flag(0, 0, 4)}, 1, 1);
        sums();
        asks();
    }

    private static void sums() {
        says(19, "/ cuts towards 0, by 0 it is 0");
        row("/", new int[] {climbs("7/2"), climbs("-7/2"), climbs("7/-2"), climbs("-7/-2"), climbs("1/2"), climbs("-1/2"), climbs("6/2"), climbs("2/3*9")}, 3, -3, -3, 3, 0, 0, 3, 0);
        row("/ 0", new int[] {climbs("7/0"), climbs("-7/0"), climbs("0/0"), climbs("7/(1-1)+5"), climbs("7/0/0"), climbs("hands/height")}, 0, 0, 0, 5, 0, 0);
        says(19, "what is above 1000000 (below the same less) is that, at each step");
        // 9999 * 100 is 999900
        row("sums", new int[] {climbs("9999*100+99-9999*100-50"), climbs("9999*100+100-9999*100-50"), climbs("9999*100+101-9999*100-50"), climbs("9999*100+9999-9999*100-50")},
            49, 50, 50, 50);
        row("sums below", new int[] {climbs("-9999*100-99+9999*100+50"), climbs("-9999*100-100+9999*100+50"), climbs("-9999*100-101+9999*100+50"), climbs("-9999*100-9999+9999*100+50")},
            -49, -50, -50, -50);
        row("products", new int[] {climbs("1000*1000-9999*100-50"), climbs("1001*1000-9999*100-50"), climbs("9999*9999-9999*100-50"), climbs("9999*9999*9999*9999-9999*100-50")},
            50, 50, 50, 50);
        row("products below", new int[] {climbs("-1000*1000+9999*100+50"), climbs("1001*-1000+9999*100+50"), climbs("-9999*9999+9999*100+50"), climbs("9999*9999*-9999+9999*100+50")},
            -50, -50, -50, -50);
        row("at each step", new int[] {climbs("9999*9999/9999"), climbs("1000*1000/9999"), climbs("(9999*9999-9999*9999)+7"), climbs("9999*101-9999*101"), climbs("9999*101/9999-50")}, 99, 99, 7, 0, 50);
        row("of one less", new int[] {climbs("-(9999*9999)+9999*100+50"), climbs("--(9999*9999)-9999*100-50"), climbs("-(-9999*9999)-9999*100-50")}, -50, 50, 50);
        says(19, "From the left");
        row("sums", new int[] {climbs("10-3-2"), climbs("20/3/2"), climbs("20/3*3"), climbs("2+3*4"), climbs("2*3+4"), climbs("8-2*3/4"), climbs("-3*2"), climbs("2*-3"), climbs("-3+2")},
            5, 3, 18, 14, 10, 7, -6, -6, -1);
        says(19, "eight open around one another");
        String nest = "1+2*(".repeat(8) + "1" + ")".repeat(8);
        row("sums in sums", new int[] {climbs("-460+" + nest), climbs("-(-(-(7)))"), climbs("-(-(-(-(7))))"), climbs("-".repeat(7) + "5"), climbs("-".repeat(8) + "5")},
            51, -7, 7, -5, 5);
        String listed = " in (1,2,3,4,5," + "1+2*(".repeat(6) + "1" + ")".repeat(6) + ")";
        row("sums in a list", new int[] {counts("1=2 or 1=1 and not 127" + listed), counts("1=2 or 1=1 and not 126" + listed), counts("1=2 or 1=1 and not not 127 in (127)")}, 0, 1, 1);
    }

    private static void asks() {
        says(19, "one of < <= > >= = # (unlike)");
        for (int a = 1; a <= 3; a++) {
            row("asks of " + a + " and 2", new int[] {counts(a + "<2"), counts(a + "<=2"), counts(a + ">2"), counts(a + ">=2"), counts(a + "=2"), counts(a + "#2")},
                a < 2 ? 1 : 0, a <= 2 ? 1 : 0, a > 2 ? 1 : 0, a >= 2 ? 1 : 0, a == 2 ? 1 : 0, a != 2 ? 1 : 0);
            String[] all = {"<2", "<=2", ">2", ">=2", "=2", "#2", " in (2,2)"};
            int[] so = {a < 2 ? 1 : 0, a <= 2 ? 1 : 0, a > 2 ? 1 : 0, a >= 2 ? 1 : 0, a == 2 ? 1 : 0, a != 2 ? 1 : 0, a == 2 ? 1 : 0};
            for (int i = 0; i < all.length; i++) {
                String ask = a + all[i];
                row("not, and, or of " + ask, new int[] {counts("not " + ask), counts("not not " + ask), counts(ask + " and 1=1"), counts("1=1 and " + ask), counts("1=2 or " + ask),
                    counts(ask + " and " + ask), counts("not " + ask + " and 1=1"), counts(ask + " and not 1=1")},
                    1 - so[i], so[i], so[i], so[i], so[i], so[i], 1 - so[i], 0);
            }
        }
        says(19, "SUM in ( SUM {, SUM} ) (6 at most: whether it is one of these)");
        for (int a = 0; a <= 7; a++) {
            due(a + " in 1 .. 6", counts(a + " in (1,2,3,4,5,6)"), a >= 1 && a <= 6 ? 1 : 0);
            due("not " + a + " in 1 .. 6", counts("not " + a + " in (1,2,3,4,5,6)"), a >= 1 && a <= 6 ? 0 : 1);
            due(a + " in 3", counts(a + " in (3)"), a == 3 ? 1 : 0);
        }
        row("of sums", new int[] {counts("1+1 in (1,1+1)"), counts("-1 in (1,-1)"), counts("7/0 in (0)"), counts("power in (power)"), counts("9999*9999 in (1000*1000)")}, 1, 1, 1, 1, 1);
        says(19, "EITHER: BOTH {or BOTH}. BOTH: ASK {and ASK}. ASK: not ASK");
        String[] of = {"1=2", "1=1"};
        for (int bits = 0; bits < 8; bits++) {
            int a = bits & 1;
            int b = bits >> 1 & 1;
            int c = bits >> 2;
            String[] three = {of[a], of[b], of[c]};
            due("a or b and c", counts(three[0] + " or " + three[1] + " and " + three[2]), a | b & c);
            due("a and b or c", counts(three[0] + " and " + three[1] + " or " + three[2]), a & b | c);
            due("not a and b or c", counts("not " + three[0] + " and " + three[1] + " or " + three[2]), 1 - a & b | c);
            due("a or not not b and not c", counts(three[0] + " or not not " + three[1] + " and not " + three[2]), a | b & 1 - c);
        }
        says(19, "NAMES");
        row("in climbs", new int[] {climbs("hour"), climbs("wind"), climbs("power"), climbs("hands"), climbs("tall"), climbs("height"), climbs("wear"), climbs("here"), climbs("holds")},
            0, 3, 2, 4, 10, 0, 0, 1, 0);
        row("in tears, counts", new int[] {law("tears place;", 3), counts("place=50"), counts("holds=0")}, 50, 1, 1);
        ForestOfPoles f = made(plain(8, 30, 6), ruled("climbs wear+height*10;tears hands+place;counts here=2 and power=5 and tall=30 and wind=9;"),
            x -> x.hoist(5, 7), x -> x.hoist(4, 7), x -> x.hoist(4, 1), x -> x.hour(1));
        row("of each FLAG its own", new int[] {f.flag(5, 7, 2), f.flag(4, 7, 2), f.flag(4, 1, 2), f.flag(5, 7, 3), f.flag(4, 1, 3), f.flag(5, 7, 4), f.flag(4, 7, 4)},
            13, 12, 6, 13, 6, 1, 0);
        f = made(plain(2, 9, 2), ruled("climbs 1;counts holds=hour;"), x -> x.hoist(1, 1), x -> x.hoist(0, 0));
        row("holds", new int[] {f.flag(0, 0, 4), f.flag(1, 1, 4), f.hour(1), f.flag(0, 0, 4), f.flag(1, 1, 4)}, 1, 1, 1, 0, 1);
    }

    private static void times() {
        says(20, "0 HOUR, 1 WIND, 2 HOLDER (NONE), 3 X. -2 for others");
        for (int what : new int[] {-1, 4, MIN, MAX}) {
            refuses("is(" + what + ")", f -> f.is(what), -2);
        }
        int[] all = {2, 8, 0, 13965};
        for (int what = 0; what <= 3; what++) {
            int asked = what;
            refuses("is(" + what + ")", f -> f.is(asked), all[what]);
        }
        row("at first", is(new ForestOfPoles()), 0, 3, -1, 79);
        due("HOUR at most", made(far(9999)).is(0), 9999);
    }

    /** Forty pages of the book: power 0 in even hours, power 1 in odd ones, from 0 to 39. */
    private static void fullBook(ForestOfPoles f) {
        plain(1, 99, 2).on(f);
        ruled("climbs 1;tears 0;counts power=hour-hour/2*2;").on(f);
        f.hoist(0, 0);
        f.hoist(1, 0);
        for (int i = 0; i < 40; i++) {
            f.blow(1);
            f.hour(1);
        }
    }

    private static void bookOfHolders() {
        says(21, "BOOK: how many (i NONE); -2 if there is none such, and for others");
        row("of none", new int[] {new ForestOfPoles().book(-1, 0), new ForestOfPoles().book(0, 0), new ForestOfPoles().book(-2, 0)}, 0, -2, -2);
        refuses("how many", f -> f.book(-1, 0), 1);
        refuses("the first", f -> f.book(0, 0), 0);
        refuses("the first", f -> f.book(0, 1), 0);
        for (int[] o : new int[][] {{1, 0}, {1, 1}, {-2, 0}, {-2, 1}, {0, -1}, {0, 2}, {MIN, 0}, {MAX, 0}, {0, MIN}, {0, MAX}}) {
            refuses("book(" + o[0] + ", " + o[1] + ")", f -> f.book(o[0], o[1]), -2);
        }
        says(21, "BOOK (the latest 40), from the eldest on");
        ForestOfPoles f = made(BoundaryTest::fullBook);
        row("40", new int[] {f.book(-1, 0), f.book(0, 0), f.book(0, 1), f.book(39, 0), f.book(39, 1), f.book(40, 0)}, 40, 0, 0, 39, 1, -2);
        f.blow(1);
        f.hour(1);
        row("41", new int[] {f.book(-1, 0), f.book(0, 0), f.book(0, 1), f.book(39, 0), f.book(39, 1), f.book(40, 0)}, 40, 1, 1, 40, 0, -2);
        f.undo();
        f.blow(0);
        f.hour(1);
        row("nobody (NONE)", new int[] {f.book(-1, 0), f.book(0, 0), f.book(39, 0), f.book(39, 1)}, 40, 1, 40, -1);
        f = made(BoundaryTest::fullBook, x -> x.undo(), x -> x.undo());
        row("39", new int[] {f.book(-1, 0), f.book(38, 0), f.book(39, 0)}, 39, 38, -2);
    }

    // ---- promises 22 to 30: what changes nothing

    private static void foretelling() {
        for (int n : new int[] {0, -1, 61, MIN, MAX}) {
            says(22, "FORETOLD behind n HOURS (1 .. 60). -2 for others");
            refuses("foretold(" + n + ")", f -> f.foretold(n), -2);
            says(23, "FORETOLD behind n HOURS (1 .. 60). -2 for others");
            refuses("foretoldHeight(" + n + ", 0, 0)", f -> f.foretoldHeight(n, 0, 0), -2);
            says(24, "FORETOLD behind n HOURS (1 .. 60). -2 for others");
            refuses("foretoldWind(" + n + ")", f -> f.foretoldWind(n), -2);
        }
        foretold(1, BoundaryTest::grove);
        foretold(2, BoundaryTest::grove);
        foretold(60, BoundaryTest::grove);
        foretold(9, plain(1, 9, 1), far(9990), x -> x.hoist(0, 0));
        says(23, "-2 for others");
        for (int[] o : new int[][] {{3, 0}, {-1, 0}, {0, 3}, {0, -1}, {6, 0}, {0, 8}, {MIN, 0}, {0, MAX}}) {
            refuses("foretoldHeight(1, " + o[0] + ", " + o[1] + ")", f -> f.foretoldHeight(1, o[0], o[1]), -2);
        }
        says(23, "HEIGHT of a FLAG (NONE)");
        refuses("of each POWER and POLE its own", f -> f.foretoldHeight(1, 2, 1) * 100 + f.foretoldHeight(1, 1, 0), 809);
        refuses("none there", f -> f.foretoldHeight(1, 2, 2), -1);
        refuses("none there", f -> f.foretoldHeight(60, 0, 1), -1);
        ForestOfPoles f = made(plain(1, 9, 1), ruled("climbs 4;tears 33;"), x -> x.hoist(0, 0));
        row("up to its top, till it is torn", new int[] {f.foretoldHeight(1, 0, 0), f.foretoldHeight(2, 0, 0), f.foretoldHeight(3, 0, 0), f.foretoldHeight(4, 0, 0), f.foretoldHeight(60, 0, 0)},
            4, 8, 9, -1, -1);
        f = made(plain(1, 9, 1), ruled("climbs (hour/5000-1)*3;tears 0;counts hour>9999;"), far(9999), x -> x.hoist(0, 0), x -> x.blow(1));
        int x = f.is(3);
        says(22, "9999 doesn't bound it");
        row("behind 1 and 2 from 9999", new int[] {f.foretold(1), f.foretold(2)}, -1, x % 10 == 0 ? -1 : 0);
        says(23, "9999 doesn't bound it");
        row("behind 1, 2, 3 from 9999", new int[] {f.foretoldHeight(1, 0, 0), f.foretoldHeight(2, 0, 0), f.foretoldHeight(3, 0, 0), f.foretoldHeight(60, 0, 0)}, 0, 3, 6, 9);
        says(24, "9999 doesn't bound it");
        row("behind 1, 2 from 9999", new int[] {f.foretoldWind(1), f.foretoldWind(2)}, x % 10, next(x) % 10);
    }

    /** What is foretold behind n hours is what is so behind them. */
    private static void foretold(int n, Work... works) {
        ForestOfPoles then = made(works);
        then.hour(n);
        says(22, "FORETOLD behind n HOURS: HOLDER (NONE)");
        keeps("foretold(" + n + ")", f -> f.foretold(n), then.is(2), works);
        says(23, "FORETOLD behind n HOURS: HEIGHT of a FLAG (NONE)");
        keeps("foretoldHeight(" + n + ", 0, 0)", f -> f.foretoldHeight(n, 0, 0), Math.max(-1, then.flag(0, 0, 0)), works);
        says(24, "FORETOLD behind n HOURS: WIND");
        keeps("foretoldWind(" + n + ")", f -> f.foretoldWind(n), then.is(1), works);
    }

    private static void heldFor() {
        says(25, "-2 for others (power NONE: nobody)");
        for (int power : new int[] {-2, 3, 5, 6, MIN, MAX}) {
            refuses("heldFor(" + power + ")", f -> f.heldFor(power), -2);
        }
        refuses("heldFor(0)", f -> f.heldFor(0), 2);
        refuses("heldFor(2)", f -> f.heldFor(2), 0);
        refuses("heldFor(-1)", f -> f.heldFor(-1), 0);
        keeps("of none", f -> f.heldFor(0), -2);
        keeps("nobody of none", f -> f.heldFor(-1), 0);
        says(25, "by the BOOK: of each that is written down");
        ForestOfPoles f = made(plain(1, 9, 1), x -> x.hour(5));
        due("nobody was not written down", f.heldFor(-1), 0);
        says(25, "from its HOUR to that of the next one (of the latest: to HOUR now)");
        f = made(plain(1, 99, 2), ruled("climbs 1;tears 0;counts power=hour/3;"), x -> x.hoist(0, 0), x -> x.hoist(1, 0));
        for (int i = 0; i < 6; i++) {
            f.blow(1);
            f.hour(1);
            row("behind " + (i + 1), new int[] {f.heldFor(0), f.heldFor(1), f.heldFor(-1)}, Math.min(3, i + 1), Math.max(0, i - 2), 0);
        }
        f.blow(0);
        f.hour(1);
        row("nobody from 6 on", new int[] {f.heldFor(0), f.heldFor(1), f.heldFor(-1)}, 3, 3, 1);
        says(25, "by the BOOK (the latest 40)");
        f = made(BoundaryTest::fullBook);
        row("40", new int[] {f.heldFor(0), f.heldFor(1)}, 20, 20);
        f.blow(1);
        f.hour(1);
        row("41: the eldest is gone", new int[] {f.heldFor(0), f.heldFor(1)}, 20, 20);
        f.blow(0);
        f.hour(1);
        row("42: two are gone", new int[] {f.heldFor(0), f.heldFor(1), f.heldFor(-1)}, 20, 19, 1);
    }

    private static void nearest() {
        says(26, "NONE: none, and for others");
        for (int pole : new int[] {-1, 3, 7, 8, MIN, MAX}) {
            refuses("nearest(" + pole + ")", f -> f.nearest(pole), -1);
        }
        keeps("of none", f -> f.nearest(0), -1);
        keeps("of one alone", f -> f.nearest(0), -1, plain(1, 9, 1));
        says(26, "the POLE (another one) whose PLACE is nearest; of like ones the lowest");
        refuses("nearest(0)", f -> f.nearest(0), 1);
        refuses("nearest(1)", f -> f.nearest(1), 0);
        refuses("nearest(2)", f -> f.nearest(2), 1);
        ForestOfPoles f = new ForestOfPoles();
        f.pole(1, 0);
        f.pole(1, 99);
        row("as far as can be", new int[] {f.nearest(0), f.nearest(1)}, 1, 0);
        f.pole(1, 50);
        f.pole(1, 48);
        f.pole(1, 52);
        f.pole(1, 99);
        row("like ones on both sides, on the same place", new int[] {f.nearest(0), f.nearest(1), f.nearest(2), f.nearest(3), f.nearest(4), f.nearest(5)}, 3, 5, 3, 2, 2, 1);
        f = made(plain(8, 9, 0));
        row("the first and the last", new int[] {f.nearest(0), f.nearest(7)}, 1, 6);
    }

    private static void odds(String what, ForestOfPoles f, int power, int n, long upper, long lower) {
        due(what + ": drops(" + power + ", " + n + ", false)", f.drops(power, n, false), upper);
        due(what + ": drops(" + power + ", " + n + ", true)", f.drops(power, n, true), lower);
    }

    private static void drops() {
        says(27, "within n HOURS (0 to 3); NONE for others");
        for (int n : new int[] {-1, 4, MIN, MAX}) {
            refuses("drops(0, " + n + ", false)", f -> f.drops(0, n, false), -1);
            refuses("drops(0, " + n + ", true)", f -> f.drops(0, n, true), -1);
        }
        for (int power : new int[] {-1, 3, 6, MIN, MAX}) {
            refuses("drops(" + power + ", 1, true)", f -> f.drops(power, 1, true), -1);
        }
        refuses("drops(0, 0, false)", f -> f.drops(0, 0, false), 0);
        refuses("drops(0, 0, true)", f -> f.drops(0, 0, true), 1);
        refuses("drops(0, 3, false)", f -> f.drops(0, 3, false), 271);
        refuses("drops(0, 3, true)", f -> f.drops(0, 3, true), 1000);
        keeps("of none", f -> f.drops(0, 1, true), -1);
        says(27, "WIND of the first as now, of each further one 0 .. 9 alike likely; not, if it doesn't drop within them");
        ForestOfPoles f = made(plain(1, 99, 2), ruled("climbs 1;tears 0;"), x -> x.hoist(0, 0));
        odds("always", f, 0, 0, 0, 1);
        odds("always", f, 0, 1, 1, 10);
        odds("always", f, 0, 2, 19, 100);
        odds("always", f, 0, 3, 271, 1000);
        odds("never", f, 1, 3, 0, 1);
        f = made(plain(1, 99, 2), ruled("climbs 1;tears 0;counts wind=9;"), x -> x.hoist(0, 0));
        odds("not by the first WIND, by one of each further nine", f, 0, 1, 0, 1);
        odds("by one of ten of the second", f, 0, 2, 1, 100);
        odds("by one of ten of the second or the third", f, 0, 3, 1 * 10 + 9 * 1, 1000);
        f = made(plain(1, 99, 2), ruled("climbs 1;tears 0;counts height=2;"), x -> x.hoist(0, 0));
        odds("behind the second alone", f, 0, 1, 0, 1);
        odds("behind the second alone", f, 0, 2, 9, 100);
        odds("behind the second alone", f, 0, 3, 9, 100);
        f = made(plain(1, 99, 2), ruled("climbs 1;tears 0;counts height=3;"), x -> x.hoist(0, 0));
        odds("behind the third alone", f, 0, 3, 81, 1000);
        f = made(plain(1, 99, 2), ruled("climbs 1;tears wind*10;counts height>2;"), x -> x.hoist(0, 0), x -> x.blow(9));
        // 90 torn at once: any further wind above 0 tears it all
        odds("torn", f, 0, 3, 0, 1);
        f = made(plain(1, 99, 2), ruled("climbs 1;tears wind*11;counts height=3;"), x -> x.hoist(0, 0), x -> x.blow(5));
        // 55 torn at once, 44 are left: of the second and third winds, 1 at least each, the sum is 4 at most: 6 twos
        odds("whole behind the third", f, 0, 3, 3, 500);
        f = made(plain(1, 99, 2), ruled("climbs 1;tears 0;counts wind=9;"), x -> x.hoist(0, 0));
        says(27, "(if that is 0: as it is now)");
        f.blow(9);
        f.hour(1);
        f.blow(0);
        for (int n = 0; n <= 3; n++) {
            odds("the HOLDER", f, 0, n, 1, 1);
            odds("not the HOLDER", f, 1, n, 0, 1);
        }
        odds("beyond 3", f, 0, 4, -1, -1);
        f = made(plain(1, 99, 1), x -> x.hoist(0, 0), x -> x.blow(0));
        odds("nobody is it", f, 0, 0, 0, 1);
        odds("nobody is it", f, 0, 3, 0, 1);
        says(27, "in lowest terms");
        f = made(plain(1, 99, 1), ruled("climbs 1;tears 0;counts wind>2 and wind<8;"), x -> x.hoist(0, 0));
        // 1/10, then five of ten winds: 1/10 + 5/100
        odds("15 of 100", f, 0, 2, 3, 20);
        f = made(plain(1, 99, 1), ruled("climbs 1;tears 0;"), far(9999), x -> x.hoist(0, 0), x -> x.blow(5), x -> x.blow(6));
        odds("from 9999", f, 0, 3, 271, 1000);
    }

    private static void hoists() {
        says(28, "n HOURS (1 to 4), hour (NONE, 0 .. n - 1); NONE for others");
        for (int[] o : new int[][] {{0, 0, -1}, {0, 5, -1}, {0, -1, -1}, {0, 5, 4}, {0, 0, 0}, {0, 1, 1}, {0, 4, 4}, {0, 1, -2}, {0, 4, -2}, {-1, 1, -1}, {3, 1, -1}, {6, 1, -1},
            {MIN, 1, -1}, {MAX, 1, -1}, {0, MIN, -1}, {0, MAX, -1}, {0, 1, MIN}, {0, 1, MAX}}) {
            refuses("hoists(" + o[0] + ", " + o[1] + ", " + o[2] + ")", f -> f.hoists(o[0], o[1], o[2]), -1);
        }
        keeps("of none", f -> f.hoists(0, 1, -1), -1);
        refuses("hoists(0, 1, -1)", f -> f.hoists(0, 1, -1), 0);
        refuses("hoists(0, 1, 0)", f -> f.hoists(0, 1, 0), 8);
        refuses("hoists(0, 4, 3)", f -> f.hoists(0, 4, 3), 8);
        says(28, "the POLE of an HOUR (8: none); of like ones by HOURS, none ahead of all, then the lowest POLE");
        row("one", plan(made(plain(8, 9, 2)), 0, 1), 1, 0);
        row("two", plan(made(plain(8, 9, 2)), 0, 2), 1, 8, 0);
        row("four", plan(made(plain(8, 9, 2)), 0, 4), 1, 8, 8, 8, 0);
        row("the last POLE", plan(made(plain(8, 9, 2), ruled("counts place=7;")), 0, 1), 1, 7);
        says(28, "the fewest by which it is the HOLDER behind the last");
        String youngest = "climbs 1;tears 0;counts height=1 and holds=1 or height=1 and hour=0;";
        row("one in each of four", plan(made(plain(4, 9, 1), ruled(youngest)), 0, 4), 4, 0, 1, 2, 3);
        row("one in each of three", plan(made(plain(4, 9, 1), ruled(youngest)), 0, 3), 3, 0, 1, 2);
        says(28, "NONE: none");
        row("three POLES for four", plan(made(plain(3, 9, 1), ruled(youngest)), 0, 4), -1, -1, -1, -1, -1);
        row("no POLE", plan(made(plain(0, 9, 1)), 0, 4), -1, -1, -1, -1, -1);
        row("WIND 0 in the last", plan(made(plain(1, 9, 1), x -> x.blow(0)), 0, 1), -1, -1);
        row("WIND 0 in the first of two", plan(made(plain(1, 9, 1), x -> x.blow(0)), 0, 2), 1, 8, 0);
        says(28, "what can't be HOISTED isn't done");
        Work full = x -> {
            plain(1, 9, 3).on(x);
            ruled("climbs 1;tears 50;").on(x);
            x.hoist(1, 0);
            x.hoist(2, 0);
        };
        row("two are there for two hours", plan(made(full), 0, 2), -1, -1, -1);
        row("torn behind two", plan(made(full), 0, 3), 1, 8, 8, 0);
        row("it has one there", plan(made(plain(1, 9, 2), ruled("climbs 9-9*power;counts height<5;"), x -> x.hoist(0, 0)), 0, 1), -1, -1);
        row("from 9999", plan(made(plain(1, 9, 1), far(9999), x -> x.blow(5), x -> x.blow(6)), 0, 1), 1, 0);
    }

    private static int[] plan(ForestOfPoles f, int power, int n) {
        int[] all = new int[n + 1];
        for (int i = 0; i <= n; i++) {
            all[i] = f.hoists(power, n, i - 1);
        }
        return all;
    }

    /** Power 0 at a height on pole 0, power 1 at another one on pole 1; both poles so tall. */
    private static int peace(int own, int theirs, int tall) {
        ForestOfPoles f = made(plain(2, tall, 2), ruled("climbs " + own + "+power*(" + theirs + "-" + own + ");"), x -> x.hoist(0, 0), x -> x.hoist(1, 1), x -> x.hour(1));
        return f.peace(0);
    }

    private static void peace() {
        says(29, "NONE: none, and for others");
        for (int power : new int[] {-1, 3, 6, MIN, MAX}) {
            refuses("peace(" + power + ")", f -> f.peace(power), -1);
        }
        keeps("of none", f -> f.peace(0), -1);
        refuses("peace(0)", f -> f.peace(0), 1);
        refuses("peace(1)", f -> f.peace(1), -1);
        says(29, "POLES are cut to one less than it, where others' FLAGS are that high or more");
        row("5 and 4, 5, 6, 9 of 9", new int[] {peace(5, 4, 9), peace(5, 5, 9), peace(5, 6, 9), peace(5, 9, 9)}, 0, 9 - 4, 9 - 4, 9 - 4);
        row("of the tallest", new int[] {peace(99, 99, 99), peace(99, 98, 99), peace(2, 99, 99)}, 1, 0, 98);
        says(29, "none (no FLAG)");
        row("no flag", new int[] {made(plain(1, 9, 2)).peace(0), made(plain(1, 9, 2), x -> x.hoist(1, 0)).peace(0), made(plain(1, 9, 2), x -> x.hoist(1, 0)).peace(1)}, -1, -1, 0);
        says(29, "none (its HEIGHT 0 or 1, and some POLE to be cut)");
        row("0 and 0, 1", new int[] {peace(0, 0, 9), peace(0, 1, 9)}, -1, -1);
        row("1 and 0, 1, 2", new int[] {peace(1, 0, 9), peace(1, 1, 9), peace(1, 2, 9)}, 0, -1, -1);
        row("2 and 1, 2, 3", new int[] {peace(2, 1, 9), peace(2, 2, 9), peace(2, 3, 9)}, 0, 9 - 1, 9 - 1);
        row("2 of 2", new int[] {peace(2, 2, 2), peace(1, 1, 1)}, 1, -1);
        row("0 and no other", new int[] {made(plain(2, 9, 2), x -> x.hoist(0, 0)).peace(0)}, 0);
        says(29, "none (others that high on its own POLE: on all on which it is that high)");
        ForestOfPoles f = made(plain(3, 9, 3), ruled("climbs 5;tears 0;"), x -> x.hoist(0, 0), x -> x.hoist(1, 0), x -> x.hour(1));
        due("as high on its only one", f.peace(0), -1);
        f.hoist(0, 1);
        f.prune(0, 4);
        f.hour(1);
        row("free on another one", new int[] {f.peace(0), f.peace(1)}, 5 - 4, -1);
        f.hoist(2, 1);
        due("free on it yet, lower ones there", f.peace(0), 1);
        f.prune(1, 4);
        f.hour(1);
        due("as high on both", f.peace(0), -1);
        says(29, "its highest FLAG (as it is) is higher than all others'");
        f = made(plain(8, 9, 6), ruled("climbs 5;tears 0;"));
        for (int pole = 0; pole < 8; pole++) {
            f.hoist(pole % 6, pole);
        }
        f.hour(1);
        // power 0 is on poles 0 and 6, power 1 on poles 1 and 7, the others on one each
        row("of all", new int[] {f.peace(0), f.peace(1), f.peace(2), f.peace(5)}, 6 * 5, 6 * 5, 7 * 5, 7 * 5);
    }

    private static void strings() {
        says(30, "NONE: none, and for others");
        for (int pole : new int[] {-1, 3, 8, MIN, MAX}) {
            refuses("strings(" + pole + ")", f -> f.strings(pole), -1);
        }
        keeps("of none", f -> f.strings(0), -1);
        says(30, "by how many feet less a POLE is PRUNED (0 .. TALL less 1, least)");
        // 8 and 6 on pole 0, which is 20 tall, 8 on pole 1; power 0 is the HOLDER
        refuses("strings(0)", f -> f.strings(0), 13);
        refuses("strings(1)", f -> f.strings(1), -1);
        refuses("strings(2)", f -> f.strings(2), -1);
        row("at TALL 3, 2, 1 none would be it", new int[] {pulled(5, "counts tall>3;"), pulled(5, "counts tall>2;"), pulled(5, "counts tall>1;")}, 2, 3, 4);
        row("TALL less 1 at most", new int[] {pulled(5, "counts tall>0;"), pulled(1, "counts tall>0;"), pulled(99, "counts tall>1;"), pulled(99, "counts tall>98;")}, -1, -1, 98, 1);
        row("0: as all is now", new int[] {pulled(5, "counts hour=0;"), pulled(1, "counts hour=0;")}, 0, 0);
        says(30, "another POWER than the HOLDER (or none) would be it, if it were looked for as all is now (WIND 0: nobody)");
        ForestOfPoles f = made(plain(2, 50, 2), ruled("climbs 5-power;tears 0;"), x -> x.hoist(0, 0), x -> x.hoist(1, 1), x -> x.hour(1));
        row("5 and 4: of like ones it is the HOLDER yet", new int[] {f.is(2), f.strings(0), f.strings(1)}, 0, 50 - 3, -1);
        f.blow(0);
        row("WIND 0: nobody", new int[] {f.strings(0), f.strings(1)}, 0, 0);
        f.hour(1);
        f.blow(0);
        row("WIND 0, and nobody is it", new int[] {f.is(2), f.strings(0), f.strings(1)}, -1, -1, -1);
        f.blow(1);
        row("WIND 1, and nobody is it", new int[] {f.is(2), f.strings(0), f.strings(1)}, -1, 0, 0);
        f.hour(1);
        f.blow(2);
        f.lower(0, 0);
        row("it is lowered", new int[] {f.is(2), f.strings(0), f.strings(1)}, 0, 0, 0);
    }

    /** Of one pole with one flag, HOLDER by the laws of hour 0. */
    private static int pulled(int tall, String laws) {
        ForestOfPoles f = made(plain(1, tall, 1), ruled(laws), x -> x.hoist(0, 0), x -> x.hour(1));
        return f.strings(0);
    }

    // ---- promises 31 to 37

    private static ForestOfPoles patterns(int... all) {
        ForestOfPoles f = new ForestOfPoles();
        for (int pattern : all) {
            f.power(1, pattern);
        }
        return f;
    }

    private static void marks() {
        says(31, "NONE for others");
        for (int powers : new int[] {-1, 8, 9, 63, 64, MIN, MAX}) {
            refuses("marks(" + powers + ") of 3", f -> f.marks(powers), -1);
        }
        refuses("marks(7)", f -> f.marks(7), 3);
        refuses("marks(0)", f -> f.marks(0), 0);
        keeps("marks(1) of none", f -> f.marks(1), -1);
        keeps("marks(0) of none", f -> f.marks(0), 0);
        row("of six", new int[] {patterns(0, 1, 2, 4, 8, 16).marks(63), patterns(0, 1, 2, 4, 8, 16).marks(64)}, 31, -1);
        says(31, "the fewest cells (bits); of like ones the lowest set; none");
        ForestOfPoles f = patterns(0, 511, 256, 0, 3, 448);
        row("one alone", new int[] {f.marks(1), f.marks(2), f.marks(32)}, 0, 0, 0);
        row("all cells unlike: the lowest", new int[] {f.marks(3)}, 1);
        row("the last cell", new int[] {f.marks(5)}, 256);
        row("like ones", new int[] {f.marks(9), f.marks(11), f.marks(63)}, -1, -1, -1);
        row("0, 511, 256", new int[] {f.marks(7)}, 257);
        row("511, 3, 448", new int[] {f.marks(2 + 16 + 32)}, 5);
        row("the lowest of like ones", new int[] {patterns(0b11, 0b101, 0b0, 0b110).marks(15), patterns(0b001, 0b010, 0b111, 0b100).marks(7)}, 3, 3);
        // cells 0, 1, 2 tell them apart, and cells 3, 4 do
        row("the fewest, though a higher set", new int[] {patterns(0, 9, 18, 28).marks(15), patterns(0, 9, 18, 28).marks(7)}, 24, 3);
        row("five of five", new int[] {patterns(0, 256, 128, 64, 32, 16).marks(63)}, 496);
    }

    private static void behindAndAfar() {
        says(32, "NONE: none, and for others");
        for (int power : new int[] {-1, 3, 6, MIN, MAX}) {
            refuses("behind(" + power + ")", f -> f.behind(power), -1);
        }
        refuses("behind(2)", f -> f.behind(2), -1);
        refuses("behind(1)", f -> f.behind(1), 1);
        keeps("of none", f -> f.behind(0), -1);
        says(32, "each row the other way round: the lowest POWER that has it");
        row("0 and 511", new int[] {patterns(0, 511).behind(0), patterns(0, 511).behind(1)}, 0, 1);
        for (int cell = 0; cell < 9; cell++) {
            int turned = cell / 3 * 3 + 2 - cell % 3;
            ForestOfPoles f = patterns(1 << cell, 1 << turned, 1 << turned);
            row("cell " + cell, new int[] {f.behind(0), f.behind(1), f.behind(2)}, cell % 3 == 1 ? 0 : 1, 0, 0);
        }
        row("of six none", new int[] {patterns(1, 1, 1, 1, 1, 1).behind(5), patterns(1, 1, 1, 1, 1, 4).behind(0), patterns(1, 1, 1, 1, 1, 4).behind(5)}, -1, 5, 0);
        row("all rows", new int[] {patterns(0b001011110, 0b100110011, 0b100110011).behind(0), patterns(0b001011110, 0b100110011).behind(1)}, 1, 0);
        says(33, "the twos of all POWERS who do: how many");
        keeps("of none", f -> f.afar(), 0);
        row("of one, of two, of six", new int[] {patterns(7).afar(), patterns(7, 7).afar(), patterns(7, 56).afar(), patterns(0, 0, 0, 0, 0, 0).afar()}, 0, 1, 0, 15);
        refuses("afar()", f -> f.afar(), 0);
        says(33, "two POWERS look alike, if each row has as many cells set");
        row("rows", new int[] {patterns(1, 4).afar(), patterns(1, 8).afar(), patterns(1, 64).afar(), patterns(8, 32).afar(), patterns(64, 256).afar(), patterns(3, 5).afar(), patterns(3, 7).afar(),
            patterns(0b011010001, 0b110001100).afar(), patterns(0b011010001, 0b110001101).afar(), patterns(0b011010001, 0b110000100).afar(), patterns(0b011010001, 0b111001100).afar()},
            1, 0, 0, 1, 1, 1, 0, 1, 0, 0, 0);
    }

    private static ForestOfPoles hands(int... all) {
        ForestOfPoles f = new ForestOfPoles();
        for (int hands : all) {
            f.power(hands, 0);
        }
        return f;
    }

    private static int[] might(ForestOfPoles f, int power, int q) {
        return new int[] {f.might(power, q, false), f.might(power, q, true)};
    }

    private static void mights() {
        says(34, "a quota q (1 .. 99); NONE for others");
        for (int q : new int[] {0, -1, 100, MIN, MAX}) {
            refuses("might(0, " + q + ", false)", f -> f.might(0, q, false), -1);
            refuses("might(0, " + q + ", true)", f -> f.might(0, q, true), -1);
        }
        for (int power : new int[] {-1, 3, 6, MIN, MAX}) {
            refuses("might(" + power + ", 5, false)", f -> f.might(power, 5, false), -1);
        }
        refuses("might(0, 1, true)", f -> f.might(0, 1, true), 3);
        refuses("might(0, 99, true)", f -> f.might(0, 99, true), 1);
        keeps("of none", f -> f.might(0, 1, true), -1);
        says(34, "by whom HANDS of those up to it get to q: by all orders, in lowest terms");
        row("alone at 9", might(hands(9), 0, 9), 1, 1);
        row("alone at 10", might(hands(9), 0, 10), 0, 1);
        row("alone at 1", might(hands(9), 0, 1), 1, 1);
        row("six at 1", might(hands(9, 9, 9, 9, 9, 9), 5, 1), 1, 6);
        row("six at 54", might(hands(9, 9, 9, 9, 9, 9), 0, 54), 1, 6);
        row("six at 55", might(hands(9, 9, 9, 9, 9, 9), 0, 55), 0, 1);
        row("six at 99", might(hands(9, 9, 9, 9, 9, 9), 0, 99), 0, 1);
        row("4 of 4, 2, 1 at 3", might(hands(4, 2, 1), 0, 3), 2, 3);
        row("4 of 4, 2, 1 at 4", might(hands(4, 2, 1), 0, 4), 1, 1);
        row("2 of 4, 2, 1 at 4", might(hands(4, 2, 1), 1, 4), 0, 1);
        row("1 of 4, 2, 1 at 3", might(hands(4, 2, 1), 2, 3), 1, 6);
        row("1 of 4, 2, 1 at 7", might(hands(4, 2, 1), 2, 7), 1, 3);
        // at 5 it is not the one if it is the last; a 1 is the one if it is the fifth and the 6 is the last
        row("6 of 6, 1, 1, 1, 1, 1 at 6", might(hands(6, 1, 1, 1, 1, 1), 0, 6), 1, 1);
        row("6 of 6, 1, 1, 1, 1, 1 at 5", might(hands(6, 1, 1, 1, 1, 1), 0, 5), 5, 6);
        row("1 of 6, 1, 1, 1, 1, 1 at 5", might(hands(6, 1, 1, 1, 1, 1), 3, 5), 1, 30);
    }

    private static void vetoes() {
        says(35, "a quota q (1 .. 99); NONE for others");
        for (int q : new int[] {0, -1, 100, MIN, MAX}) {
            refuses("veto(" + q + ")", f -> f.veto(q), -1);
        }
        // 4, 3 and 4 hands
        refuses("veto(1)", f -> f.veto(1), 0);
        refuses("veto(99)", f -> f.veto(99), 7);
        says(35, "POWERS (bits) without whom all others together don't get to q");
        keeps("of none", f -> f.veto(1), 0);
        ForestOfPoles f = hands(4, 2, 1);
        row("at 3 .. 8", new int[] {f.veto(3), f.veto(4), f.veto(5), f.veto(6), f.veto(7), f.veto(8)}, 0, 1, 1, 3, 7, 7);
        row("alone", new int[] {hands(1).veto(1), hands(9).veto(99)}, 1, 1);
        row("six of 9", new int[] {hands(9, 9, 9, 9, 9, 9).veto(45), hands(9, 9, 9, 9, 9, 9).veto(46)}, 0, 63);
    }

    private static int[] shares(ForestOfPoles f, int q, int amount) {
        int[] all = new int[f.about(1)];
        for (int power = 0; power < all.length; power++) {
            all[power] = f.shares(power, q, amount);
        }
        return all;
    }

    private static void shares() {
        says(36, "an amount (0 .. 9999), a quota q (1 .. 99); NONE for others");
        for (int[] o : new int[][] {{0, 5, -1}, {0, 5, 10000}, {0, 0, 5}, {0, 100, 5}, {-1, 5, 5}, {3, 5, 5}, {6, 5, 5}, {0, 5, MIN}, {0, 5, MAX}, {0, MIN, 5}, {0, MAX, 5}, {MIN, 5, 5}, {MAX, 5, 5}}) {
            refuses("shares(" + o[0] + ", " + o[1] + ", " + o[2] + ")", f -> f.shares(o[0], o[1], o[2]), -1);
        }
        refuses("shares(0, 1, 9999)", f -> f.shares(0, 1, 9999), 3333);
        keeps("of none", f -> f.shares(0, 1, 1), -1);
        says(36, "cut parts; what is left by ones to the greatest rests, of like ones the lowest");
        // at 5: two thirds, a sixth, a sixth
        row("0 of 4, 2, 1", shares(hands(4, 2, 1), 5, 0), 0, 0, 0);
        row("1 of 4, 2, 1", shares(hands(4, 2, 1), 5, 1), 1, 0, 0);
        row("2 of 4, 2, 1: all rests are alike", shares(hands(4, 2, 1), 5, 2), 2, 0, 0);
        row("3 of 4, 2, 1", shares(hands(4, 2, 1), 5, 3), 2, 1, 0);
        row("6 of 4, 2, 1", shares(hands(4, 2, 1), 5, 6), 4, 1, 1);
        row("9999 of 4, 2, 1", shares(hands(4, 2, 1), 5, 9999), 6666, 1667, 1666);
        row("9999 of six", shares(hands(9, 9, 9, 9, 9, 9), 54, 9999), 1667, 1667, 1667, 1666, 1666, 1666);
        row("5 of six", shares(hands(9, 9, 9, 9, 9, 9), 1, 5), 1, 1, 1, 1, 1, 0);
        row("all to one", shares(hands(4, 2, 1), 4, 9999), 9999, 0, 0);
        row("alone", shares(hands(1), 1, 9999), 9999);
        says(36, "(all 0, if nobody has POWER)");
        row("at 7 and 8", shares(hands(4, 2, 1), 7, 9), 3, 3, 3);
        row("at 8", shares(hands(4, 2, 1), 8, 9), 0, 0, 0);
        row("at 99", shares(hands(9, 9, 9, 9, 9, 9), 99, 9999), 0, 0, 0, 0, 0, 0);
    }

    private static int[] change(int c, int t) {
        ForestOfPoles f = new ForestOfPoles();
        return new int[] {f.change(c, t, 0), f.change(c, t, 1), f.change(c, t, 2)};
    }

    private static void changing() {
        says(37, "c (0 .. 999), t (0 .. 99), what 0, 1, 2; NONE for others");
        for (int[] o : new int[][] {{-1, 1}, {1000, 1}, {1, -1}, {1, 100}, {MIN, 1}, {MAX, 1}, {1, MIN}, {1, MAX}}) {
            for (int what = 0; what <= 2; what++) {
                int asked = what;
                refuses("change(" + o[0] + ", " + o[1] + ", " + what + ")", f -> f.change(o[0], o[1], asked), -1);
            }
        }
        for (int what : new int[] {-1, 3, MIN, MAX}) {
            refuses("change(1, 1, " + what + ")", f -> f.change(1, 1, what), -1);
        }
        refuses("change(10, 1, 0)", f -> f.change(10, 1, 0), 4);
        says(37, "the number of HOURS (1 .. 48); of like ones the fewest");
        row("0, 0", change(0, 0), 1, 0, 1);
        row("0, 99", change(0, 99), 1, 0, 1);
        row("999, 0", change(999, 0), 48, 333, 16);
        row("1, 0", change(1, 0), 48, 1, 48);
        // 99, 198, 297 pence
        row("99, 99", change(99, 99), 1, 99, 1);
        // 100, 199, 298 pence: 100, 99 and a half, ..
        row("100, 99", change(100, 99), 48, 4753, 48);
        // 98, 197 pence
        row("98, 99", change(98, 99), 1, 98, 1);
        // 1, 2, 4 pence: 1, 1, ..
        row("1, 1", change(1, 1), 1, 1, 1);
        row("2, 1", change(2, 1), 2, 3, 2);
        row("10, 1: 4 and 5 are alike", change(10, 1), 4, 4, 1);
        says(37, "its WEAR then (at first 0, more by t an HOUR, 99 at most)");
        row("999, 99: 0, 99, 99, ..", change(999, 99), 48, 471, 4);
        row("999, 50: 0, 50, 99, ..", change(999, 50), 48, 5603, 48);
        row("999, 33: 0, 33, 66, 99, 99, ..", change(999, 33), 48, 1851, 16);
        row("999, 1: 0 .. 44", change(999, 1), 45, 221, 5);
        row("999, 2: 0, 2, .., 62", change(999, 2), 32, 1991, 32);
        for (int c = 0; c <= 999; c += 37) {
            for (int t = 0; t <= 99; t += 9) {
                row("change(" + c + ", " + t + ")", change(c, t), best(c, t));
            }
        }
    }

    /** By trying all numbers of hours, each from its first hour on. */
    private static int[] best(int c, int t) {
        int hours = 0;
        int pence = 0;
        for (int n = 1; n <= 48; n++) {
            int sum = c;
            int wear = 0;
            for (int i = 0; i < n; i++) {
                sum += wear;
                wear = Math.min(99, wear + t);
            }
            if (n == 1 || (double) sum / n < (double) pence / hours - 1e-9) {
                hours = n;
                pence = sum;
            }
        }
        int common = java.math.BigInteger.valueOf(pence).gcd(java.math.BigInteger.valueOf(hours)).intValue();
        return new int[] {hours, pence / common, hours / common};
    }

    // ---- promises 38 to 42

    private static void finding() {
        says(38, "PLACES 0 .. 99; -2 for others");
        for (int place : new int[] {-2, 100, MIN, MAX}) {
            refuses("found(" + place + ", true)", f -> f.found(place, true), -2);
            refuses("found(" + place + ", false)", f -> f.found(place, false), -2);
        }
        ForestOfPoles f = new ForestOfPoles();
        row("at the bounds", new int[] {f.found(0, true), f.found(99, true), f.found(0, false), f.found(99, false), f.about(5)}, 1, 2, 3, 4, 4);
        due("it is no STEP", f.about(4), 0);
        says(38, "FOUND (8 at most); -2 if there are 8");
        f = new ForestOfPoles();
        for (int i = 1; i <= 8; i++) {
            due("found", f.found(i, false), i);
        }
        due("a ninth", f.found(9, false), -2);
        due("about(5)", f.about(5), 8);
        keeps("a ninth", x -> x.found(9, true), -2, BoundaryTest::eightFound);
        keeps("one of the eight again", x -> x.found(1, false), -2, BoundaryTest::eightFound);
        says(38, "(place NONE: none any more)");
        row("of eight", new int[] {f.found(-1, true), f.about(5), f.rhythms(false), f.found(1, true)}, 0, 0, 210, 1);
        row("of one, of none", new int[] {f.found(-1, false), f.found(-1, false), f.about(5)}, 0, 0, 0);
    }

    private static void eightFound(ForestOfPoles f) {
        for (int i = 1; i <= 8; i++) {
            f.found(i, false);
        }
    }

    private static ForestOfPoles found(int... places) {
        ForestOfPoles f = new ForestOfPoles();
        for (int place : places) {
            f.found(Math.abs(place), place >= 0);
        }
        return f;
    }

    private static void rhythms() {
        says(39, "a step 1 .. 20, a first PLACE 0 .. step less 1");
        keeps("of nothing found", f -> f.rhythms(false), 210);
        refuses("rhythms(false)", f -> f.rhythms(false), 19);
        // 19 and 39 are of steps 1, 2, 4, 5, 10, 20; 29 not: of 4 and 20; 23 not: of 20
        row("the last of all", new int[] {found(19, 39).rhythms(false), found(19, 39, -29).rhythms(false), found(19, 39, -29, -23).rhythms(false)}, 6, 2, 1);
        row("21 is no step", new int[] {found(0, 21).rhythms(false), found(0, 20).rhythms(false), found(0, 21, -3, -7).rhythms(false)}, 3, 6, 0);
        row("step 1 has poles at all PLACES", new int[] {found(0, 1).rhythms(false), found(98, 99).rhythms(false), found(0, 1, -99).rhythms(false)}, 1, 1, 0);
        row("at 0 and at 99", new int[] {found(0).rhythms(false), found(99).rhythms(false), found(0, 99).rhythms(false)}, 20, 20, 4);
        row("none there", new int[] {found(-99).rhythms(false), found(-1, -2).rhythms(false)}, 190, 171);
        ForestOfPoles both = found(7);
        both.found(7, false);
        row("both ways", new int[] {both.rhythms(false), both.rhythms(true)}, 0, -1);
        says(39, "NEXT: none without two RHYTHMS at least");
        row("two, one, none", new int[] {found(19, 39, -29).rhythms(true), found(19, 39, -29, -23).rhythms(true), found(0, 21, -3, -7).rhythms(true)}, 3, -1, -1);
        says(39, "the PLACE not told yet at which as near to half of these as can be have a pole; of like ones the lowest");
        keeps("of all 210 each PLACE has 20", f -> f.rhythms(true), 0);
        refuses("rhythms(true)", f -> f.rhythms(true), 64);
        row("0 is told", new int[] {found(0).rhythms(true)}, 60);
        ForestOfPoles last = found(39);
        row("the last PLACE, asked again", new int[] {last.rhythms(true), last.rhythms(false), last.rhythms(true), last.rhythms(true)}, 99, 20, 99, 99);
        ForestOfPoles first = found(22, 8, 92);
        // steps 1, 2, 7, 14: at 0 the first two
        row("the first PLACE, asked again", new int[] {first.rhythms(false), first.rhythms(true), first.rhythms(true), first.rhythms(true)}, 4, 0, 0, 0);
        // steps 1 and 17 (of 7)
        row("the step 1 has a pole there", new int[] {found(58, 75).rhythms(false), found(58, 75).rhythms(true)}, 2, 0);
        for (int place = 0; place < 100; place++) {
            due("next behind a pole at " + place, found(place).rhythms(true), nextBy(place, true));
            if (place > 0) {
                due("next behind none at " + place, found(-place).rhythms(true), nextBy(place, false));
            }
        }
    }

    /** By asking each PLACE of each rhythm, with one place told. */
    private static int nextBy(int told, boolean is) {
        int best = -1;
        int least = MAX;
        for (int place = 0; place < 100; place++) {
            int all = 0;
            int have = 0;
            for (int step = 1; step <= 20; step++) {
                for (int first = 0; first < step; first++) {
                    if ((told % step == first) == is) {
                        all++;
                        have += place % step == first ? 1 : 0;
                    }
                }
            }
            int off = Math.abs(2 * have - all);
            if (place != told && off < least) {
                least = off;
                best = place;
            }
        }
        return best;
    }

    private static void aheads() {
        says(40, "-2 for others (unlike ones)");
        for (int[] o : new int[][] {{0, 0}, {2, 2}, {0, 3}, {3, 0}, {0, -1}, {-2, 0}, {0, -2}, {6, 0}, {MIN, 0}, {MAX, 0}, {0, MIN}, {0, MAX}}) {
            refuses("ahead(" + o[0] + ", " + o[1] + ")", f -> f.ahead(o[0], o[1]), -2);
        }
        keeps("of none", f -> f.ahead(0, 1), -2);
        keeps("of one", f -> f.ahead(0, 1), -2, plain(0, 9, 1));
        ForestOfPoles f = made(plain(0, 9, 6));
        row("the first and the last", new int[] {f.ahead(0, 5), f.ahead(5, 0), f.about(6), f.about(4)}, 1, 2, 2, 0);
        says(40, "AHEAD (10 at most); -2 if there are 10");
        keeps("an eleventh", x -> x.ahead(0, 2), -2, BoundaryTest::tenAhead);
        keeps("one of the ten again", x -> x.ahead(0, 1), -2, BoundaryTest::tenAhead);
        f = made(plain(0, 9, 3));
        for (int i = 1; i <= 10; i++) {
            due("ahead", f.ahead(0, 1 + i % 2), i);
        }
        row("an eleventh", new int[] {f.ahead(1, 2), f.about(6)}, -2, 10);
        says(40, "(one NONE: none any more)");
        row("of ten", new int[] {f.ahead(-1, 0), f.about(6), f.orders(-1), f.ahead(2, 1)}, 0, 0, 6, 1);
        row("whatever the other one is", new int[] {f.ahead(-1, MAX), f.ahead(-1, -1), f.about(6)}, 0, 0, 0);
        due("without POWERS", new ForestOfPoles().ahead(-1, 0), 0);
    }

    private static void tenAhead(ForestOfPoles f) {
        plain(0, 9, 3).on(f);
        for (int i = 0; i < 10; i++) {
            f.ahead(0, 1);
        }
    }

    private static int[] order(ForestOfPoles f) {
        int[] all = new int[f.about(1) + 1];
        for (int i = 0; i < all.length; i++) {
            all[i] = f.orders(i - 1);
        }
        return all;
    }

    private static ForestOfPoles ordered(int powers, int... twos) {
        ForestOfPoles f = made(plain(0, 9, powers));
        for (int i = 0; i < twos.length; i += 2) {
            f.ahead(twos[i], twos[i + 1]);
        }
        return f;
    }

    private static void orders() {
        says(41, "how many (i NONE), the i-th of the first. NONE: there is none such, and for others");
        for (int i : new int[] {-2, 3, 5, 6, MIN, MAX}) {
            refuses("orders(" + i + ") of 3", f -> f.orders(i), -1);
        }
        refuses("orders(-1)", f -> f.orders(-1), 3);
        refuses("orders(0)", f -> f.orders(0), 0);
        refuses("orders(2)", f -> f.orders(2), 2);
        keeps("of nobody", f -> f.orders(-1), 1);
        keeps("the first of nobody", f -> f.orders(0), -1);
        row("of one", order(ordered(1)), 1, 0);
        row("of six", order(ordered(6)), 720, 0, 1, 2, 3, 4, 5);
        row("the other way round", order(ordered(6, 5, 4, 4, 3, 3, 2, 2, 1, 1, 0)), 1, 5, 4, 3, 2, 1, 0);
        row("the last ahead of all", order(ordered(6, 5, 0, 5, 1, 5, 2, 5, 3, 5, 4)), 120, 5, 0, 1, 2, 3, 4);
        says(41, "the first such order (lowest first POWER, ..)");
        row("3 ahead of 0", order(ordered(4, 3, 0)), 12, 1, 2, 3, 0);
        row("1 ahead of 0", order(ordered(4, 1, 0)), 12, 1, 0, 2, 3);
        row("told twice", order(ordered(4, 1, 0, 1, 0)), 12, 1, 0, 2, 3);
        says(41, "NONE: there is none such");
        row("two ahead of each other", order(ordered(3, 0, 1, 1, 0)), 0, -1, -1, -1);
        row("three in a ring", order(ordered(4, 0, 1, 1, 2, 2, 0)), 0, -1, -1, -1, -1);
        row("a ring of six", order(ordered(6, 0, 1, 1, 2, 2, 3, 3, 4, 4, 5, 5, 0)), 0, -1, -1, -1, -1, -1, -1);
        ForestOfPoles f = ordered(2, 1, 0);
        f.power(1, 1);
        row("a POWER told since", order(f), 3, 1, 0, 2);
    }

    private static void surely() {
        says(42, "NONE: none, and for others");
        for (int[] o : new int[][] {{0, 0}, {2, 2}, {0, 3}, {3, 0}, {-1, 0}, {0, -1}, {-1, -1}, {6, 0}, {MIN, 0}, {MAX, 0}, {0, MIN}, {0, MAX}}) {
            refuses("surely(" + o[0] + ", " + o[1] + ")", f -> f.surely(o[0], o[1]), -1);
        }
        keeps("of none", f -> f.surely(0, 1), -1);
        refuses("surely(0, 1)", f -> f.surely(0, 1), 1);
        refuses("surely(1, 0)", f -> f.surely(1, 0), 0);
        refuses("surely(0, 2)", f -> f.surely(0, 2), 0);
        says(42, "whether one is ahead of another one in all of these (1, 0; none without any)");
        ForestOfPoles f = ordered(6, 5, 4, 4, 3, 3, 2, 2, 1, 1, 0);
        row("through all", new int[] {f.surely(5, 0), f.surely(0, 5), f.surely(5, 4), f.surely(3, 1)}, 1, 0, 1, 1);
        f = ordered(6, 0, 1, 1, 2, 2, 3, 3, 4, 4, 5);
        row("through all", new int[] {f.surely(0, 5), f.surely(5, 0)}, 1, 0);
        f = ordered(4, 0, 1, 0, 2);
        row("two behind one", new int[] {f.surely(0, 1), f.surely(0, 2), f.surely(1, 2), f.surely(2, 1), f.surely(3, 0), f.surely(0, 3)}, 1, 1, 0, 0, 0, 0);
        f = ordered(4, 0, 1, 1, 0);
        row("without any", new int[] {f.surely(0, 1), f.surely(2, 3), f.surely(1, 0)}, -1, -1, -1);
    }

    // ---- promises 43 to 45

    private static void images() {
        says(43, "THE IMAGE is as all is now: HOUR");
        due("of a new object", new ForestOfPoles().image(), 0);
        due("at 9999", made(far(9999)).image(), 9999);
        ForestOfPoles f = made(BoundaryTest::grove);
        row("image(), and all stays", new int[] {f.image(), f.about(4), f.about(7), f.fault(0)}, 2, 6, 7, 2);
        says(44, "BACK to THE IMAGE (it stays): HOUR");
        Work far = x -> {
            x.hour(60);
            x.pole(3, 3);
            x.power(9, 9);
            x.by(-1);
            read(x, "climbs 9;");
            x.found(-1, true);
            x.ahead(-1, 0);
            x.blow(x.is(1) == 0 ? 1 : 0);
            read(x, "blow 10;");
            put(x, "blow 7;");
        };
        for (int turn = 0; turn < 3; turn++) {
            far.on(f);
            due("back()", f.back(), 2);
        }
        due("once more", f.back(), 2);
        same("all as it was", view(f, true), viewWithImage());
        says(44, "all as it is, but the tape and the latest FAULT");
        f = made(BoundaryTest::grove);
        f.image();
        read(f, "climbs 1;climbs");
        put(f, "hour");
        f.back();
        row("tape, fault, place, texts", new int[] {f.about(7), f.fault(0), f.fault(1), f.about(2)}, 4, 4, 9, 2);
        row("the tape goes on", new int[] {f.feed(0x20313b20, 0x20202020, 0x20202020, 0x20202020, 0x20202020), f.text(), f.played(2), f.is(0)}, 24, 2, -1, 3);
        f = made(BoundaryTest::grove);
        f.image();
        f.text();
        row("a text read since is no more", new int[] {f.about(2), f.back(), f.about(2), f.played(2)}, 3, 2, 2, -2);
        manyImages();
    }

    private static String viewWithImage() {
        ForestOfPoles twin = made(BoundaryTest::grove);
        twin.image();
        return view(twin, true);
    }

    private static void manyImages() {
        says(44, "all is so again: STEPS, BOOK, TEXTS, FOUND, AHEAD");
        ForestOfPoles f = made(plain(1, 9, 1), x -> x.hour(30));
        f.image();
        f.hour(30);
        f.back();
        for (int i = 29; i >= 0; i--) {
            row("undo", new int[] {f.undo(), f.is(0)}, i, i);
        }
        f.back();
        row("once more", new int[] {f.is(0), f.about(4), f.undo(), f.is(0)}, 30, 30, 29, 29);
        f = made(BoundaryTest::fullBook, x -> x.image(), x -> x.blow(1), x -> x.hour(1), x -> x.back());
        row("the book", new int[] {f.book(-1, 0), f.book(0, 0), f.book(0, 1), f.book(39, 0), f.book(39, 1)}, 40, 0, 0, 39, 1);
        f = made(plain(8, 9, 6), x -> tenOf(x), x -> x.image(), x -> x.found(-1, true), x -> x.ahead(-1, 0), x -> x.back());
        row("found and ahead", new int[] {f.about(5), f.about(6), f.found(1, true), f.ahead(0, 1), f.about(0), f.about(1)}, 8, 10, -2, -2, 8, 6);
        f = ordered(3, 2, 0);
        f.found(19, true);
        f.found(39, true);
        f.image();
        f.found(-1, true);
        f.found(0, true);
        f.found(39, false);
        f.ahead(-1, 0);
        f.ahead(0, 1);
        f.back();
        row("what was told then", new int[] {f.rhythms(false), f.orders(-1), f.orders(0), f.surely(2, 0), f.surely(0, 1)}, 6, 3, 1, 1, 0);
        f = made(plain(1, 50, 1), x -> x.hoist(0, 0), x -> read(x, "climbs 1;"), x -> x.image());
        for (int i = 2; i <= 4; i++) {
            read(f, "climbs " + i + ";");
        }
        f.back();
        row("a text in the stead of another one", new int[] {read(f, "climbs 7;"), f.by(1) ? f.flag(0, 0, 2) : 0, f.by(0) ? f.flag(0, 0, 2) : 0}, 1, 7, 1);
        f.back();
        row("the first one stays", new int[] {f.about(2), f.by(0) ? f.flag(0, 0, 2) : 0, f.by(1) ? 1 : 0}, 1, 1, 0);
    }

    private static void tenOf(ForestOfPoles f) {
        for (int i = 0; i < 10; i++) {
            f.found(i, false);
            f.ahead(0, 1);
        }
    }

    private static void about() {
        says(45, "0 POLES .. 7 bytes of the tape. -2 for others");
        for (int what : new int[] {-1, 8, MIN, MAX}) {
            refuses("about(" + what + ")", f -> f.about(what), -2);
        }
        int[] all = {3, 3, 2, 0, 6, 2, 1, 7};
        for (int what = 0; what <= 7; what++) {
            int asked = what;
            refuses("about(" + what + ")", f -> f.about(asked), all[what]);
        }
        says(45, "at most");
        ForestOfPoles f = made(plain(9, 9, 7), x -> tenOf(x), x -> x.hour(31));
        for (int i = 0; i < 5; i++) {
            read(f, "");
        }
        f.by(3);
        fill(f, 300);
        row("about", abouts(f), 8, 6, 4, 3, 30, 8, 10, 300);
    }

    private static void manyCalls() {
        says(1, "at most 512 calls after it has been made");
        ForestOfPoles f = new ForestOfPoles();
        for (int i = 1; i < MOST_CALLS; i++) {
            due("blow", f.blow(4 + i % 2), true);
        }
        due("the 512th", f.is(1), 5);
        f = made(plain(1, 9, 1));
        for (int i = 3; i < MOST_CALLS; i++) {
            f.centuries(i, 40);
        }
        due("the 512th", f.about(4), 30);
    }
}
