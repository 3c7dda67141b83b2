/** Each promise by its number: ordinary inputs, the edges that the document names, and wrong inputs. */
public final class PromiseTest {
    private static final int MIN = Integer.MIN_VALUE;
    private static final int MAX = Integer.MAX_VALUE;
    private static int wrong = 0;
    private static int promise = 0;

    public static void main(String[] args) {
        newObject();
        tellPolesAndPowers();
        tape();
        texts();
        faultsByKind();
        faultsOfOneToken();
        ruling();
        hours();
        holders();
        laws();
        asks();
        deeds();
        scripts();
        centuries();
        undoing();
        looks();
        bookOfHolders();
        foretelling();
        drops();
        hoists();
        peaceAndStrings();
        patterns();
        mights();
        changing();
        rhythms();
        orders();
        images();
        lastHour();
        System.out.println(wrong == 0 ? "all promises hold" : wrong + " answers are not as promised");
        if (wrong != 0) {
            System.exit(1);
        }
    }

    private static void due(String what, long got, long want) {
        if (got != want) {
            wrong++;
            System.out.println("promise " + promise + ": " + what + " answered " + got + ", due is " + want);
        }
    }

    private static void due(String what, boolean got, boolean want) {
        due(what, got ? 1 : 0, want ? 1 : 0);
    }

    /** The answers of one call for several arguments, in one line. */
    private static void row(String what, int[] got, int... want) {
        String a = java.util.Arrays.toString(got);
        String b = java.util.Arrays.toString(want);
        if (!a.equals(b)) {
            wrong++;
            System.out.println("promise " + promise + ": " + what + " answered " + a + ", due is " + b);
        }
    }

    private static void put(ForestOfPoles f, String text) {
        f.end(0);
        for (int i = 0; i < text.length(); i += 20) {
            int[] five = new int[5];
            for (int k = 0; k < 20; k++) {
                int b = i + k < text.length() ? text.charAt(i + k) : 0;
                five[k / 4] |= b << 24 - 8 * (k % 4);
            }
            f.feed(five[0], five[1], five[2], five[3], five[4]);
        }
        f.end(text.length());
    }

    private static int read(ForestOfPoles f, String text) {
        put(f, text);
        return f.text();
    }

    private static void fault(String text, int number, int place) {
        ForestOfPoles f = new ForestOfPoles();
        promise = 6;
        due("text() of " + text, read(f, text), number == 0 ? 0 : -1);
        promise = 7;
        due("fault(0) of " + text, f.fault(0), number);
        due("fault(1) of " + text, f.fault(1), place);
    }

    /** Two poles (20 tall at 5, 10 tall at 50), three powers with 4, 3 and 4 hands. */
    private static ForestOfPoles small() {
        ForestOfPoles f = new ForestOfPoles();
        f.pole(20, 5);
        f.pole(10, 50);
        f.power(4, 7);
        f.power(3, 56);
        f.power(4, 1);
        return f;
    }

    private static ForestOfPoles ruledBy(String text) {
        ForestOfPoles f = small();
        due("text() of " + text, read(f, text), 0);
        due("by(0)", f.by(0), true);
        return f;
    }

    private static int[] about(ForestOfPoles f) {
        int[] all = new int[8];
        for (int i = 0; i < 8; i++) {
            all[i] = f.about(i);
        }
        return all;
    }

    private static int[] is(ForestOfPoles f) {
        return new int[] {f.is(0), f.is(1), f.is(2), f.is(3)};
    }

    private static String repeat(String s, int n) {
        return s.repeat(n);
    }

    private static void newObject() {
        promise = 1;
        ForestOfPoles f = new ForestOfPoles();
        due("NONE", ForestOfPoles.NONE, -1);
        row("about", about(f), 0, 0, 0, -1, 0, 0, 0, 0);
        row("is", is(f), 0, 3, -1, 79);
        due("book(-1, 0)", f.book(-1, 0), 0);
        due("undo()", f.undo(), -1);
        f.pole(3, 3);
        f.power(3, 3);
        f.blow(7);
        f.found(1, true);
        due("back()", f.back(), 0);
        row("about", about(f), 0, 0, 0, -1, 0, 0, 0, 0);
        row("is", is(f), 0, 3, -1, 79);
    }

    private static void tellPolesAndPowers() {
        ForestOfPoles f = new ForestOfPoles();
        promise = 2;
        int[][] others = {{0, 0}, {100, 0}, {1, -1}, {1, 100}, {MIN, 0}, {MAX, MAX}, {-1, 5}};
        for (int[] o : others) {
            due("pole(" + o[0] + ", " + o[1] + ")", f.pole(o[0], o[1]), -1);
        }
        due("pole(1, 0)", f.pole(1, 0), 0);
        due("pole(99, 99)", f.pole(99, 99), 1);
        for (int i = 2; i < 8; i++) {
            due("pole", f.pole(5, 5), i);
        }
        due("a ninth pole", f.pole(5, 5), -1);
        row("poles", new int[] {f.about(0), f.ofPole(0, 0), f.ofPole(0, 1), f.ofPole(1, 0), f.ofPole(1, 1)}, 8, 1, 0, 99, 99);
        promise = 3;
        int[][] none = {{0, 0}, {10, 0}, {1, -1}, {1, 512}, {MIN, 1}, {1, MAX}};
        for (int[] o : none) {
            due("power(" + o[0] + ", " + o[1] + ")", f.power(o[0], o[1]), -1);
        }
        due("power(1, 0)", f.power(1, 0), 0);
        due("power(9, 511)", f.power(9, 511), 1);
        for (int i = 2; i < 6; i++) {
            due("power", f.power(3, i), i);
        }
        due("a seventh power", f.power(3, 3), -1);
        row("powers", new int[] {f.about(1), f.ofPower(1, 0), f.ofPower(1, 1), f.ofPower(5, 1)}, 6, 9, 511, 5);
    }

    private static void tape() {
        promise = 4;
        ForestOfPoles f = new ForestOfPoles();
        for (int i = 1; i <= 15; i++) {
            due("feed", f.feed(i, -1, MIN, MAX, 0), 20 * i);
        }
        due("feed beyond 300", f.feed(0, 0, 0, 0, 0), -1);
        due("bytes", f.about(7), 300);
        promise = 5;
        due("end(301)", f.end(301), -1);
        due("end(-1)", f.end(-1), -1);
        due("end(MIN)", f.end(MIN), -1);
        due("bytes", f.about(7), 300);
        due("end(300)", f.end(300), 300);
        due("end(281)", f.end(281), 281);
        due("end(282)", f.end(282), -1);
        promise = 4;
        due("feed to 301", f.feed(0, 0, 0, 0, 0), -1);
        due("bytes", f.about(7), 281);
        f.end(280);
        due("feed to 300", f.feed(0, 0, 0, 0, 0), 300);
        f.end(0);
        // "blow" " 7  " "    " "    " "  ;}" : the highest byte of a first
        due("feed", f.feed(0x626c6f77, 0x20372020, 0x20202020, 0x20202020, 0x20203b7d), 20);
        promise = 5;
        due("end(19)", f.end(19), 19);
        due("text()", f.text(), 0);
        promise = 4;
        due("played(0)", f.played(0), -1);
        due("is(1)", f.is(1), 7);
    }

    private static void texts() {
        promise = 6;
        ForestOfPoles f = new ForestOfPoles();
        due("an empty text", f.text(), 0);
        due("played(0)", f.played(0), -1);
        due("blanks", read(f, " \n \n"), 1);
        due("a fault", read(f, "blow 7"), -1);
        due("the tape behind a fault", f.about(7), 0);
        due("texts", f.about(2), 2);
        due("a text", read(f, "blow 7;"), 2);
        due("the tape behind a text", f.about(7), 0);
        due("a text", read(f, "blow  7 ;\n"), 3);
        due("a fifth", read(f, "blow 77;"), -1);
        due("the tape stays", f.about(7), 8);
        promise = 7;
        row("fault of the latest that was read", new int[] {f.fault(0), f.fault(1)}, 0, -1);
        promise = 6;
        ForestOfPoles full = new ForestOfPoles();
        due("24 clauses", read(full, repeat("hour 60;", 24)), 0);
        due("300 bytes", read(full, "climbs " + repeat("1+", 146) + "1"), -1);
        row("fault", new int[] {full.fault(0), full.fault(1)}, 1, 300);
        due("300 bytes", read(full, "climbs" + repeat("+1", 146).replaceFirst(".", " ") + " ;"), 1);
        full.pole(99, 0);
        full.power(1, 0);
        full.hoist(0, 0);
        full.by(1);
        due("146 ones", full.flag(0, 0, 2), 99);
        due("a sum of all signs", read(full, "counts 1=1 or 1<2 and 1>2 or not 3<=2 and 2>=3 or 1#1 or 1 in (1) ;"), 2);
    }

    private static void faultsByKind() {
        promise = 7;
        ForestOfPoles f = new ForestOfPoles();
        row("ahead of any", new int[] {f.fault(0), f.fault(1), f.fault(2), f.fault(-1)}, -1, -1, -1, -1);
        read(f, "blow 10;");
        row("of one", new int[] {f.fault(0), f.fault(1), f.fault(2), f.fault(-1), f.fault(MAX)}, 2, 5, -1, -1, -1);
        read(f, "");
        row("without", new int[] {f.fault(0), f.fault(1), f.fault(2)}, 0, -1, -1);
        // 1: it can't stand there, or is none; of the end at the length
        fault("blow 1", 1, 6);
        fault("blow 1  ", 1, 8);
        fault("blow", 1, 4);
        fault("climbs ;", 1, 7);
        fault("climbs", 1, 6);
        fault("climbs 1+;", 1, 9);
        fault("climbs 1 1;", 1, 9);
        fault("climbs hour hour;", 1, 12);
        fault("climbs 1);", 1, 8);
        fault("climbs (1;", 1, 9);
        fault("climbs (1,2);", 1, 9);
        fault("climbs 1 and 1;", 1, 9);
        fault("climbs not 1;", 1, 7);
        fault("tears 1=1;", 1, 7);
        fault("counts 1;", 1, 8);
        fault("counts 1=1=1;", 1, 10);
        fault("counts 1 in (1)=1;", 1, 15);
        fault("counts 1 in (1)+1=2;", 1, 15);
        fault("counts 1=1 in (1);", 1, 11);
        fault("counts 1 in ();", 1, 13);
        fault("counts 1 in (1,);", 1, 15);
        fault("counts 1 in (1 and 1);", 1, 15);
        fault("counts 1 in ((1,2));", 1, 15);
        fault("counts 1 in 1;", 1, 12);
        fault("counts 1 in 40;", 1, 12);
        fault("counts 1 in -1);", 1, 12);
        fault("counts 1=1);", 1, 10);
        fault("counts 1 in (1));", 1, 15);
        fault("counts 1 in (1),2;", 1, 15);
        fault("counts 1,2=1;", 1, 8);
        fault("counts (1=1);", 1, 9);
        fault("counts (1 in (1));", 1, 10);
        fault("counts 1=not 1=1;", 1, 9);
        fault("counts not not;", 1, 14);
        fault("counts 1=1 and;", 1, 14);
        fault("counts 1=1 1=1;", 1, 11);
        fault("counts 1=<2;", 1, 9);
        fault("counts 1< =2;", 1, 10);
        fault("Blow 1;", 1, 0);
        fault("blowx 1;", 1, 0);
        fault("blowa 1;", 1, 0);
        fault("blowz 1;", 1, 0);
        fault("blowA 1;", 1, 0);
        fault("blowZ 1;", 1, 0);
        fault("at 1;", 1, 0);
        fault(";", 1, 0);
        fault("blow 1;;", 1, 7);
        fault("blow -1;", 1, 5);
        fault("blow hour;", 1, 5);
        fault("climbs at;", 1, 7);
        fault("climbs x;", 1, 7);
        fault("climbs pole;", 1, 7);
        fault("climbs Hour;", 1, 7);
        fault("climbs 1!;", 1, 8);
        fault("blow\t1;", 1, 4);
        fault("blow\r1;", 1, 4);
        fault("\u00ff", 1, 0);
        fault("pole 1 on 1;", 1, 7);
        fault("hoist 1 by 1;", 1, 8);
        fault("prune 1 on 1;", 1, 8);
        fault("pole 1 at;", 1, 9);
        fault("power 1 at 1;", 1, 8);
        // 2: a number that isn't one of those told
        fault("pole 0 at 0;", 2, 5);
        fault("pole 100 at 0;", 2, 5);
        fault("pole 99 at 100;", 2, 11);
        fault("power 0;", 2, 6);
        fault("power 10;", 2, 6);
        fault("hoist 6 on 0;", 2, 6);
        fault("hoist 5 on 8;", 2, 11);
        fault("lower 6 on 0;", 2, 6);
        fault("lower 5 on 8;", 2, 11);
        fault("prune 8 by 1;", 2, 6);
        fault("prune 7 by 0;", 2, 11);
        fault("prune 7 by 100;", 2, 11);
        fault("blow 10;", 2, 5);
        fault("hour 0;", 2, 5);
        fault("hour 61;", 2, 5);
        fault("climbs 10000;", 2, 7);
        fault("climbs 99999999999999999999;", 2, 7);
        fault("blow 4294967296;", 2, 5);
        fault("pole 99 at 99;pole 1 at 0;power 9;power 1;hoist 5 on 7;lower 0 on 0;prune 0 by 99;blow 9;hour 60;climbs 9999;", 0, -1);
        fault("pole 0099at00000000000000001;", 0, -1);
        // 3: the ninth that is open
        fault("climbs " + repeat("(", 8) + "1" + repeat(")", 8) + ";", 0, -1);
        fault("climbs " + repeat("(", 9) + "1" + repeat(")", 9) + ";", 3, 15);
        fault("climbs " + repeat("-", 8) + "1;", 0, -1);
        fault("climbs " + repeat("-", 9) + "1;", 3, 15);
        fault("climbs " + repeat("-(", 4) + "-1" + repeat(")", 4) + ";", 3, 15);
        fault("climbs " + repeat("-1*(", 4) + "-(-(1))" + repeat(")", 4) + ";", 0, -1);
        fault("counts " + repeat("not ", 8) + "1=1;", 0, -1);
        fault("counts " + repeat("not ", 9) + "1=1;", 3, 39);
        fault("counts " + repeat("not ", 7) + "1 in (1);", 0, -1);
        fault("counts " + repeat("not ", 8) + "1 in (1);", 3, 44);
        fault("counts " + repeat("not ", 7) + "1 in ((1));", 3, 41);
        fault("counts " + repeat("not ", 8) + "-1=1;", 3, 39);
        fault("counts " + repeat("not ", 8) + "1=1 and " + repeat("not ", 8) + "1=1;", 0, -1);
        fault("counts 1 in (" + repeat("-", 7) + "1," + repeat("-", 8) + "1);", 3, 29);
        // 4: a law for the second time
        fault("climbs 1;climbs 1;", 4, 9);
        fault("tears 1;climbs 1;tears 1;", 4, 17);
        fault("counts 1=1;counts 1=1;", 4, 11);
        fault("climbs 1;climbs", 4, 9);
        // 5: a name that isn't of that clause
        fault("climbs place;", 5, 7);
        fault("tears 1+(holds);", 5, 9);
        fault("climbs hour+wind+power+hands+tall+height+wear+here+holds;tears hour+wind+power+hands+tall+height+wear+here+place;"
            + "counts hour+wind+power+hands+tall+height+wear+here+place+holds=1;", 0, -1);
        // 6: the 25th clause
        fault(repeat("blow 1;", 24), 0, -1);
        fault(repeat("blow 1;", 25), 6, 168);
        fault(repeat("blow 1;", 24) + "  climbs", 6, 170);
        // 7: the comma ahead of the seventh sum
        fault("counts 1 in (1,2,3,4,5,6);", 0, -1);
        fault("counts 1 in (1,2,3,4,5,6,7);", 7, 24);
        fault("counts 1 in (1,2,3,4,5,6) or 1 in (1,2,3,4,5,6,", 7, 46);
    }

    private static void faultsOfOneToken() {
        fault(repeat("blow 1;", 24) + "wind 1;", 1, 168);
        fault(repeat("blow 1;", 24) + "!", 1, 168);
        fault("climbs 1;" + repeat("blow 1;", 23) + "climbs 1;", 4, 170);
        fault("climbs 1 10000;", 1, 9);
        fault("climbs " + repeat("(", 8) + "1(", 1, 16);
        fault("climbs 1 place;", 1, 9);
        fault("counts 1 in (1,2,3,4,5,6 6,", 1, 25);
        fault("climbs " + repeat("(", 8) + "not", 1, 15);
    }

    private static void ruling() {
        promise = 8;
        ForestOfPoles f = small();
        f.hoist(0, 0);
        due("by(0)", f.by(0), false);
        due("by(-1)", f.by(-1), true);
        read(f, "climbs 7;");
        read(f, "tears 9;");
        due("climbs", f.flag(0, 0, 2), 4);
        due("by(0)", f.by(0), true);
        due("climbs", f.flag(0, 0, 2), 7);
        due("tears", f.flag(0, 0, 3), 3);
        due("by(1)", f.by(1), true);
        due("climbs", f.flag(0, 0, 2), 4);
        due("tears", f.flag(0, 0, 3), 9);
        due("by(2)", f.by(2), false);
        due("by(-2)", f.by(-2), false);
        due("by(MAX)", f.by(MAX), false);
        due("about(3)", f.about(3), 1);
        due("by(-1)", f.by(-1), true);
        due("about(3)", f.about(3), -1);
        due("tears", f.flag(0, 0, 3), 3);
    }

    private static void hours() {
        promise = 9;
        ForestOfPoles f = small();
        due("hour(0)", f.hour(0), -2);
        due("hour(-1)", f.hour(-1), -2);
        due("hour(61)", f.hour(61), -2);
        due("hour(MAX)", f.hour(MAX), -2);
        due("hour(MIN)", f.hour(MIN), -2);
        row("is", is(f), 0, 3, -1, 79);
        due("hour(1) without flags", f.hour(1), -1);
        row("is", is(f), 1, 9, -1, 22538);
        due("nothing written", f.book(-1, 0), 0);
        f.hoist(0, 0);
        f.hoist(2, 1);
        due("hour(3)", f.hour(3), 0);
        row("is", is(f), 4, 6, 0, 14454);
        // winds 9, 8, 5 tore it; it climbed 4 an hour, and pole 1 is 10 tall
        row("flags", new int[] {f.flag(0, 0, 0), f.flag(0, 0, 1), f.flag(2, 1, 0), f.flag(2, 1, 1)}, 12, 22, 10, 22);
        due("hour(60)", f.hour(60), -1);
        due("all are torn", f.ofPower(0, 2) + f.ofPower(2, 2), 0);
        f = ruledBy("tears 33;");
        f.hoist(0, 0);
        due("hour(3)", f.hour(3), 0);
        due("99 is no more than 99", f.flag(0, 0, 1), 99);
        due("hour(1)", f.hour(1), -1);
        due("it is gone", f.flag(0, 0, 1), -100);
        f = ruledBy("tears (here-1)*100;");
        f.hoist(0, 0);
        f.hoist(1, 0);
        due("as all is then: the first is gone, the second alone", f.hour(1), 1);
        due("powers there", f.ofPole(0, 2), 2);
        f = ruledBy("climbs 5-9*(hour/2);tears height;");
        f.hoist(0, 0);
        f.hour(1);
        row("tears behind climbs", new int[] {f.flag(0, 0, 0), f.flag(0, 0, 1)}, 5, 5);
        f.hour(1);
        row("flag", new int[] {f.flag(0, 0, 0), f.flag(0, 0, 1)}, 10, 15);
        f.hour(2);
        row("at least 0", new int[] {f.flag(0, 0, 0), f.flag(0, 0, 1)}, 2, 23);
        f.hour(1);
        due("at least 0", f.flag(0, 0, 0), 0);
    }

    private static void holders() {
        promise = 9;
        ForestOfPoles f = small();
        f.hoist(1, 0);
        f.hoist(2, 0);
        due("the highest", f.hour(1), 2);
        f = ruledBy("climbs 5;");
        f.hoist(1, 0);
        f.hoist(2, 0);
        f.hoist(0, 1);
        due("of like ones the most hands, then the lowest", f.hour(1), 0);
        f = ruledBy("climbs 5;");
        f.hoist(1, 0);
        due("alone", f.hour(1), 1);
        f.hoist(0, 1);
        due("pole 1 is cut", f.prune(0, 15), 5);
        due("of like ones the one that was", f.hour(1), 1);
        f.lower(1, 0);
        due("then the other", f.hour(1), 0);
        f.blow(0);
        due("without wind nobody", f.hour(1), -1);
        f.blow(1);
        due("again", f.hour(1), 0);
        f = ruledBy("counts power=1 and holds=0;");
        f.hoist(0, 0);
        f.hoist(1, 0);
        due("counts by the holder as it was", f.hour(1), 1);
        f.blow(1);
        due("counts by the holder as it was", f.hour(1), -1);
        f.blow(1);
        due("counts by the holder as it was", f.hour(1), 1);
    }

    private static int climbs(String sum) {
        ForestOfPoles f = ruledBy("climbs " + sum + ";");
        f.hoist(2, 1);
        return f.flag(2, 1, 2);
    }

    private static void laws() {
        promise = 19;
        String[] sums = {"7/2", "-7/2", "7/-2", "7/0", "0/0", "2+3*4", "(2+3)*4", "10-3-2", "20/3/2", "2*-3", "--3", "-3*2", "-3+2",
            "9999*9999-9999*100-50", "-9999*9999+9999*100+50", "100", "-100", "9999*9999*9999-9999*9999*9999", "99", "-99", "8-2*3/4",
            "hour", "wind", "power", "hands", "tall", "height", "wear", "here", "holds", "9999*100+9999-9999*9-9990*91", "007"};
        int[] want = {3, -3, -3, 0, 0, 14, 20, 5, 3, -6, 3, -6, -1,
            50, -50, 99, -99, 0, 99, -99, 7,
            0, 3, 2, 4, 10, 0, 0, 1, 0, 99, 7};
        // 9999 * 100 + 9999 is cut to 1000000; less 89991 and 909090 is 919, of which 99 at most is told
        for (int i = 0; i < sums.length; i++) {
            due("climbs " + sums[i], climbs(sums[i]), want[i]);
        }
        ForestOfPoles f = ruledBy("climbs hour+holds*10;tears place+here;counts place=5;");
        f.hoist(0, 0);
        f.hoist(1, 0);
        f.hoist(1, 1);
        row("tears", new int[] {f.flag(0, 0, 3), f.flag(1, 1, 3)}, 7, 51);
        row("counts", new int[] {f.flag(0, 0, 4), f.flag(1, 1, 4)}, 1, 0);
        due("hour(1)", f.hour(1), 0);
        row("climbs", new int[] {f.flag(0, 0, 2), f.flag(1, 0, 2), f.flag(1, 1, 2)}, 11, 1, 1);
        f = ruledBy("tears 101;");
        f.hoist(0, 0);
        due("tears at most", f.flag(0, 0, 3), 100);
        f = ruledBy("tears -5;");
        f.hoist(0, 0);
        due("tears at least", f.flag(0, 0, 3), 0);
        row("others", new int[] {f.flag(0, 0, 5), f.flag(0, 0, -1), f.flag(0, 1, 0), f.flag(-1, 0, 0), f.flag(0, -1, 0), f.flag(3, 0, 0),
            f.flag(0, 2, 0), f.flag(MAX, MIN, 0)}, -100, -100, -100, -100, -100, -100, -100, -100);
        f = small();
        f.hoist(0, 0);
        row("without a text", new int[] {f.flag(0, 0, 0), f.flag(0, 0, 1), f.flag(0, 0, 2), f.flag(0, 0, 3), f.flag(0, 0, 4)}, 0, 0, 4, 3, 0);
        f.hour(1);
        row("without a text", new int[] {f.flag(0, 0, 0), f.flag(0, 0, 1), f.flag(0, 0, 2), f.flag(0, 0, 3), f.flag(0, 0, 4)}, 4, 3, 4, 9, 1);
    }

    private static int counts(String ask) {
        ForestOfPoles f = ruledBy("counts " + ask + ";");
        f.hoist(2, 1);
        return f.flag(2, 1, 4);
    }

    private static void asks() {
        promise = 19;
        String[] so = {"1<2", "1<=1", "2>1", "1>=1", "1=1", "1#2", "not 1=2", "not not 1=1", "1=1 or 1=2 and 1=2", "1=2 and 1=2 or 1=1",
            "not 1=2 and 1=1", "not 1=2 or 1=1", "power in (1,2,3)", "power in (power)", "2 in (1,1,1,1,1,2)", "not 3 in (1,2)",
            "1+1 in (2*1,7)", "1 in (1) and 2 in (3,2)", "not 1 in (2) and not 2 in (1)", "-1 in (-1)", "1+2*3=7", "hands-4=height", "1#2 and 1=1",
            "2>=1 and 1=1", "1<=2 and 1=1", "1<2 and 2>1", "1 in (1) and 1=1"};
        String[] not = {"1<1", "2<=1", "1>1", "1>=2", "1=2", "1#1", "not 1=1", "not not 1=2", "1=2 or 1=2", "1=1 and 1=2", "not 1=1 or 1=2",
            "not 1=2 and 1=2", "3 in (1,2,4)", "not 1 in (1)", "1 in (2) or 1=2", "1 in (2,3,4,5,6,7)", "1=2 and 1=1 or 1=2", "holds=1", "not 1#2",
            "not 2>=1", "not 1<=2", "not 1<2", "not 2>1"};
        for (String ask : so) {
            due(ask, counts(ask), 1);
        }
        for (String ask : not) {
            due(ask, counts(ask), 0);
        }
    }

    private static void deeds() {
        ForestOfPoles f = small();
        promise = 10;
        due("hoist(0, 0)", f.hoist(0, 0), true);
        due("a second of its own", f.hoist(0, 0), false);
        due("two on one", f.hoist(1, 0), true);
        due("three on one", f.hoist(2, 0), false);
        due("hoist(3, 1)", f.hoist(3, 1), false);
        due("hoist(-1, 1)", f.hoist(-1, 1), false);
        due("hoist(0, 2)", f.hoist(0, 2), false);
        due("hoist(0, -1)", f.hoist(0, -1), false);
        due("hoist(MAX, MIN)", f.hoist(MAX, MIN), false);
        due("steps", f.about(4), 2);
        f.hour(1);
        f.lower(0, 0);
        due("hoisted anew", f.hoist(0, 0), true);
        row("at 0 without wear", new int[] {f.flag(0, 0, 0), f.flag(0, 0, 1)}, 0, 0);
        promise = 11;
        due("lower(2, 0)", f.lower(2, 0), false);
        due("lower(1, 0)", f.lower(1, 0), true);
        due("lower(1, 0)", f.lower(1, 0), false);
        due("lower(-1, 0)", f.lower(-1, 0), false);
        due("lower(0, -1)", f.lower(0, -1), false);
        due("lower(9, 9)", f.lower(9, 9), false);
        due("lower(MIN, MAX)", f.lower(MIN, MAX), false);
        row("there", new int[] {f.ofPole(0, 2), f.about(4)}, 1, 6);
        promise = 12;
        f.hour(2);
        due("height", f.flag(0, 0, 0), 8);
        due("prune(0, 12)", f.prune(0, 12), 8);
        due("height", f.flag(0, 0, 0), 8);
        due("prune(0, 1)", f.prune(0, 1), 7);
        due("height", f.flag(0, 0, 0), 7);
        due("prune(0, 7)", f.prune(0, 7), -1);
        due("prune(0, 6)", f.prune(0, 6), 1);
        due("prune(0, 1)", f.prune(0, 1), -1);
        due("prune(1, 0)", f.prune(1, 0), -1);
        due("prune(1, -1)", f.prune(1, -1), -1);
        due("prune(1, MAX)", f.prune(1, MAX), -1);
        due("prune(1, MIN)", f.prune(1, MIN), -1);
        due("prune(2, 1)", f.prune(2, 1), -1);
        due("prune(-1, 1)", f.prune(-1, 1), -1);
        due("tall", f.ofPole(1, 0), 10);
        promise = 13;
        int steps = f.about(4);
        int wind = f.is(1);
        due("as it is", f.blow(wind), false);
        due("blow(10)", f.blow(10), false);
        due("blow(-1)", f.blow(-1), false);
        due("blow(MIN)", f.blow(MIN), false);
        due("steps", f.about(4), steps);
        due("another", f.blow(9 - wind), true);
        row("wind, steps", new int[] {f.is(1), f.about(4)}, 9 - wind, steps + 1);
    }

    private static void scripts() {
        promise = 14;
        ForestOfPoles f = new ForestOfPoles();
        due("played(0)", f.played(0), -2);
        read(f, "pole 9 at 7;climbs 2;power 5;hoist 0 on 0;hour 2;tears 1;prune 0 by 2;blow 1;lower 0 on 0;");
        due("played(-1)", f.played(-1), -2);
        due("played(1)", f.played(1), -2);
        due("played(0)", f.played(0), -1);
        row("poles, powers, the text, steps", new int[] {f.about(0), f.about(1), f.about(3), f.about(4)}, 1, 1, -1, 6);
        row("hands, pattern, tall, place, wind", new int[] {f.ofPower(0, 0), f.ofPower(0, 1), f.ofPole(0, 0), f.ofPole(0, 1), f.is(1)}, 5, 0, 7, 7, 1);
        due("by its own law it climbed 5 twice", f.undo(), 5);
        due("height", f.flag(0, 0, 0), 7);
        f.by(0);
        // pole 1 and power 1 come, power 0 has a flag on pole 0
        due("hoist 0 on 0 can't be: clause 3", f.played(0), 3);
        row("what was done stays", new int[] {f.about(0), f.about(1), f.about(4)}, 2, 2, 5);
        f = new ForestOfPoles();
        read(f, "blow 3;");
        read(f, "lower 0 on 0;");
        read(f, "prune 0 by 1;");
        read(f, repeat("pole 1 at 1;", 9) + repeat("power 1;", 7));
        due("as it is", f.played(0), 0);
        due("no flag", f.played(1), 0);
        due("no pole", f.played(2), 0);
        due("no ninth", f.played(3), 8);
        due("1 at least stays", f.played(2), 0);
        f = new ForestOfPoles();
        read(f, "climbs 1;tears 1;" + repeat("power 1;", 7));
        due("no seventh", f.played(0), 8);
    }

    private static void centuries() {
        promise = 15;
        ForestOfPoles f = new ForestOfPoles();
        due("without any", f.centuries(0, 1), -2);
        f.pole(10, 0);
        due("without powers", f.centuries(0, 1), -2);
        f.power(2, 0);
        due("seed -1", f.centuries(-1, 1), -2);
        due("seed 10000", f.centuries(10000, 1), -2);
        due("n 0", f.centuries(0, 0), -2);
        due("n 41", f.centuries(0, 41), -2);
        due("steps", f.about(4), 0);
        ForestOfPoles g = new ForestOfPoles();
        g.power(1, 1);
        due("without poles", g.centuries(0, 1), -2);
        // x 85: 85 mod 7 is 1
        due("hoists", f.centuries(3, 1), -1);
        row("flag, x, steps", new int[] {f.flag(0, 0, 0), f.is(3), f.about(4)}, 0, (85 * 283 + 181) % 30307, 1);
        due("91 mod 7 is 0: it has one", f.centuries(6, 1), -1);
        due("steps", f.about(4), 2);
        // 89 mod 7 is 5
        due("an hour", f.centuries(5, 1), 0);
        int x = (89 * 283 + 181) % 30307;
        row("is", is(f), 1, x % 10, 0, (x * 283 + 181) % 30307);
        // 87 mod 7 is 3, 87 mod 3 is 0
        due("prunes by 1", f.centuries(4, 1), 0);
        due("tall", f.ofPole(0, 0), 9);
        // 101 mod 7 is 3, 101 mod 3 is 2
        due("prunes by 3", f.centuries(11, 1), 0);
        due("tall", f.ofPole(0, 0), 6);
        // 79 mod 7 is 2
        due("lowers", f.centuries(0, 1), 0);
        due("none there", f.ofPole(0, 2), 0);
        due("one step", f.undo(), 5);
        due("there again", f.ofPole(0, 2), 1);
        due("x as ahead of it", f.is(3), (101 * 283 + 181) % 30307);
        int before = f.is(0);
        due("of 40 draws", f.centuries(9999, 40) >= -1, true);
        due("x", f.is(0) > before, true);
        due("one step", f.undo(), 5);
        due("hour", f.is(0), before);
    }

    private static void undoing() {
        promise = 16;
        ForestOfPoles f = small();
        due("none", f.undo(), -1);
        f.hoist(0, 0);
        f.hour(3);
        f.prune(0, 15);
        due("height", f.flag(0, 0, 0), 5);
        f.blow(0);
        f.lower(0, 0);
        due("steps", f.about(4), 7);
        due("lowered", f.undo(), 6);
        due("blown", f.undo(), 5);
        due("wind", f.is(1), 5);
        due("pruned", f.undo(), 4);
        row("tall, height", new int[] {f.ofPole(0, 0), f.flag(0, 0, 0)}, 20, 12);
        due("an hour", f.undo(), 3);
        row("height, wear", new int[] {f.flag(0, 0, 0), f.flag(0, 0, 1)}, 8, 12);
        row("is", is(f), 2, 8, 0, 13965);
        due("an hour", f.undo(), 2);
        due("an hour", f.undo(), 1);
        row("is", is(f), 0, 3, -1, 79);
        due("the book", f.book(-1, 0), 0);
        f.pole(8, 8);
        f.power(5, 5);
        f.hoist(3, 2);
        f.prune(2, 4);
        f.hoist(3, 1);
        f.undo();
        f.undo();
        f.undo();
        due("tall", f.ofPole(2, 0), 8);
        f.hoist(3, 2);
        f.prune(2, 4);
        f.undo();
        f.undo();
        f.prune(2, 3);
        due("the first hoist", f.undo(), 1);
        due("tall again", f.ofPole(2, 0), 8);
        f.prune(2, 3);
        f.hoist(3, 2);
        f.undo();
        f.undo();
        due("told since: as tall as told", f.undo(), 0);
        row("poles stay, as told, without flags", new int[] {f.about(0), f.about(1), f.ofPole(2, 0), f.ofPole(2, 2), f.ofPole(0, 2)}, 3, 4, 8, 0, 0);
        f.blow(1);
        f.pole(50, 1);
        f.prune(3, 10);
        f.hoist(0, 3);
        f.undo();
        f.undo();
        due("undo", f.undo(), 0);
        row("told since", new int[] {f.ofPole(3, 0), f.ofPole(3, 2), f.is(1)}, 50, 0, 3);
        f.hour(40);
        due("the latest 30", f.about(4), 30);
        for (int i = 29; i >= 0; i--) {
            due("undo", f.undo(), i);
        }
        due("no more", f.undo(), -1);
        due("hour", f.is(0), 10);
    }

    private static void looks() {
        ForestOfPoles f = small();
        f.hoist(2, 0);
        f.hoist(1, 0);
        f.hoist(2, 1);
        f.hour(3);
        promise = 17;
        row("pole 0", new int[] {f.ofPole(0, 0), f.ofPole(0, 1), f.ofPole(0, 2)}, 20, 5, 6);
        row("pole 1", new int[] {f.ofPole(1, 0), f.ofPole(1, 1), f.ofPole(1, 2)}, 10, 50, 4);
        row("others", new int[] {f.ofPole(0, 3), f.ofPole(0, -1), f.ofPole(2, 0), f.ofPole(-1, 0), f.ofPole(MAX, 0)}, -1, -1, -1, -1, -1);
        promise = 18;
        row("power 2", new int[] {f.ofPower(2, 0), f.ofPower(2, 1), f.ofPower(2, 2), f.ofPower(2, 3)}, 4, 1, 3, 12);
        row("power 0", new int[] {f.ofPower(0, 0), f.ofPower(0, 1), f.ofPower(0, 2), f.ofPower(0, 3)}, 4, 7, 0, -1);
        row("others", new int[] {f.ofPower(0, 4), f.ofPower(0, -1), f.ofPower(3, 0), f.ofPower(-1, 0), f.ofPower(MIN, 3)}, -2, -2, -2, -2, -2);
        promise = 20;
        row("is", is(f), 3, 5, 2, 12366);
        row("others", new int[] {f.is(4), f.is(-1), f.is(MAX)}, -2, -2, -2);
        promise = 26;
        due("nearest(0)", f.nearest(0), 1);
        f.pole(5, 95);
        f.pole(5, 5);
        f.pole(5, 5);
        row("nearest", new int[] {f.nearest(0), f.nearest(1), f.nearest(2), f.nearest(3), f.nearest(4)}, 3, 0, 1, 0, 0);
        row("others", new int[] {f.nearest(5), f.nearest(-1), f.nearest(MAX)}, -1, -1, -1);
        ForestOfPoles g = new ForestOfPoles();
        g.pole(1, 1);
        due("another one: none", g.nearest(0), -1);
        g = new ForestOfPoles();
        g.pole(1, 0);
        g.pole(1, 99);
        row("as far as can be", new int[] {g.nearest(0), g.nearest(1)}, 1, 0);
        promise = 45;
        row("about", about(f), 5, 3, 0, -1, 6, 0, 0, 0);
        row("others", new int[] {f.about(8), f.about(-1), f.about(MAX)}, -2, -2, -2);
    }

    private static void bookOfHolders() {
        promise = 21;
        // power 0 in even hours, power 1 in odd ones
        ForestOfPoles f = ruledBy("tears 0;counts power=hour-hour/2*2;");
        f.hoist(0, 0);
        f.hoist(1, 0);
        due("none yet", f.book(-1, 0), 0);
        due("book(0, 0)", f.book(0, 0), -2);
        f.blow(1);
        for (int i = 0; i < 50; i++) {
            due("hour(1)", f.hour(1), i % 2);
            f.blow(1);
            due("book(-1, 9)", f.book(-1, 9), Math.min(40, i + 1));
        }
        row("eldest, latest", new int[] {f.book(0, 0), f.book(0, 1), f.book(39, 0), f.book(39, 1)}, 10, 0, 49, 1);
        row("others", new int[] {f.book(40, 0), f.book(-2, 0), f.book(0, 2), f.book(0, -1), f.book(MAX, 0), f.book(MIN, 1)}, -2, -2, -2, -2, -2, -2);
        promise = 25;
        // written down: hours 10 .. 49, each for one hour
        row("held for", new int[] {f.heldFor(0), f.heldFor(1), f.heldFor(2), f.heldFor(-1)}, 20, 20, 0, 0);
        row("others", new int[] {f.heldFor(3), f.heldFor(-2), f.heldFor(MAX)}, -2, -2, -2);
        f.by(-1);
        f.lower(1, 0);
        f.hour(1);
        f.blow(1);
        f.hour(1);
        f.blow(0);
        f.hour(1);
        f.blow(0);
        f.hour(1);
        // hour 50 on power 0 again; 12 .. 50 of the book: from 50 two hours, nobody from 52 on, two hours
        row("held for", new int[] {f.heldFor(0), f.heldFor(1), f.heldFor(-1)}, 21, 19, 2);
        due("book(39, 1)", f.book(39, 1), -1);
        ForestOfPoles g = small();
        row("nothing yet", new int[] {g.heldFor(0), g.heldFor(-1)}, 0, 0);
        g.hour(5);
        row("nobody was not written down", new int[] {g.heldFor(0), g.heldFor(-1)}, 0, 0);
        g.hoist(0, 0);
        g.hour(3);
        row("held for", new int[] {g.heldFor(0), g.heldFor(1)}, 3, 0);
    }

    private static void foretelling() {
        ForestOfPoles f = small();
        f.hoist(0, 0);
        f.hoist(2, 1);
        int[] before = is(f);
        for (int n = 1; n <= 60; n += 7) {
            promise = 22;
            f.image();
            int holder = f.hour(n);
            int high = f.flag(0, 0, 0);
            int wind = f.is(1);
            f.back();
            due("foretold(" + n + ")", f.foretold(n), holder);
            promise = 23;
            due("foretoldHeight(" + n + ", 0, 0)", f.foretoldHeight(n, 0, 0), high == -100 ? -1 : high);
            promise = 24;
            due("foretoldWind(" + n + ")", f.foretoldWind(n), wind);
        }
        row("nothing is changed", is(f), before);
        row("nothing is changed", new int[] {f.about(4), f.book(-1, 0)}, 2, 0);
        promise = 22;
        row("others", new int[] {f.foretold(0), f.foretold(61), f.foretold(-1), f.foretold(MAX)}, -2, -2, -2, -2);
        promise = 24;
        row("others", new int[] {f.foretoldWind(0), f.foretoldWind(61), f.foretoldWind(-1)}, -2, -2, -2);
        due("foretoldWind(60)", f.foretoldWind(60) >= 0, true);
        row("winds", new int[] {f.foretoldWind(1), f.foretoldWind(2), f.foretoldWind(3)}, 9, 8, 5);
        promise = 23;
        row("heights", new int[] {f.foretoldHeight(1, 0, 0), f.foretoldHeight(2, 2, 1), f.foretoldHeight(3, 2, 1), f.foretoldHeight(1, 1, 0)}, 4, 8, 10, -1);
        row("others", new int[] {f.foretoldHeight(0, 0, 0), f.foretoldHeight(61, 0, 0), f.foretoldHeight(1, 3, 0), f.foretoldHeight(1, 0, 2),
            f.foretoldHeight(1, -1, 0), f.foretoldHeight(1, 0, -1)}, -2, -2, -2, -2, -2, -2);
    }

    private static void odds(ForestOfPoles f, int power, int n, long upper, long lower) {
        due("drops(" + power + ", " + n + ", false)", f.drops(power, n, false), upper);
        due("drops(" + power + ", " + n + ", true)", f.drops(power, n, true), lower);
    }

    private static void drops() {
        promise = 27;
        ForestOfPoles f = ruledBy("counts power=0 and wind<6 or power=1 and wind>5;");
        f.hoist(0, 0);
        f.hoist(1, 1);
        odds(f, 0, 0, 0, 1);
        odds(f, 0, 1, 1, 10);
        odds(f, 1, 1, 0, 1);
        odds(f, 0, 2, 3, 20);
        odds(f, 1, 2, 1, 25);
        odds(f, 0, 3, 39, 200);
        odds(f, 1, 3, 19, 250);
        odds(f, 2, 3, 0, 1);
        due("nothing is changed", f.is(0), 0);
        f.hour(1);
        f.blow(0);
        odds(f, 0, 0, 1, 1);
        odds(f, 0, 3, 1, 1);
        odds(f, 1, 3, 0, 1);
        odds(f, 0, 4, -1, -1);
        odds(f, 0, -1, -1, -1);
        odds(f, 3, 1, -1, -1);
        odds(f, -1, 1, -1, -1);
        odds(f, MAX, MIN, -1, -1);
    }

    private static void hoists() {
        promise = 28;
        ForestOfPoles f = new ForestOfPoles();
        f.pole(2, 0);
        f.pole(10, 0);
        f.pole(9, 0);
        f.power(5, 0);
        f.power(3, 0);
        f.hoist(0, 0);
        row("none is asked for", new int[] {f.hoists(0, 1, -1), f.hoists(0, 1, 0), f.hoists(0, 2, 0), f.hoists(0, 2, 1)}, 0, 8, 8, 8);
        row("in one hour: on pole 1", new int[] {f.hoists(1, 1, -1), f.hoists(1, 1, 0)}, 1, 1);
        row("in two: none first", new int[] {f.hoists(1, 2, -1), f.hoists(1, 2, 0), f.hoists(1, 2, 1)}, 1, 8, 1);
        row("in four", new int[] {f.hoists(1, 4, -1), f.hoists(1, 4, 0), f.hoists(1, 4, 1), f.hoists(1, 4, 2), f.hoists(1, 4, 3)}, 1, 8, 8, 8, 1);
        row("others", new int[] {f.hoists(1, 0, -1), f.hoists(1, 5, -1), f.hoists(1, 2, 2), f.hoists(1, 2, -2), f.hoists(2, 1, -1),
            f.hoists(-1, 1, -1), f.hoists(MAX, MAX, MAX)}, -1, -1, -1, -1, -1, -1, -1);
        row("nothing is changed", new int[] {f.ofPower(1, 2), f.is(0), f.about(4)}, 0, 0, 1);
        f.hoist(0, 1);
        f.hoist(0, 2);
        row("higher on all: none", new int[] {f.hoists(1, 1, -1), f.hoists(1, 4, -1), f.hoists(1, 2, 0)}, -1, -1, -1);
        f.blow(0);
        due("without wind none", f.hoists(0, 1, -1), -1);
        f = ruledBy("climbs 9;tears 40;counts power=1 and height=18 or power=0 and height=9;");
        f.hoist(0, 0);
        row("two hours old behind the last", new int[] {f.hoists(1, 3, -1), f.hoists(1, 3, 0), f.hoists(1, 3, 1), f.hoists(1, 3, 2)}, 1, 8, 0, 8);
        ForestOfPoles g = ruledBy("tears 0;counts here=2 and power=1 and height<5 and hour in(1,3);");
        g.hoist(0, 1);
        row("behind hour 1 by a young flag", new int[] {g.hoists(1, 2, -1), g.hoists(1, 2, 0), g.hoists(1, 2, 1)}, 1, 8, 1);
        // the holder stays only while a new flag of it is there
        g = ruledBy("climbs 1;counts power=1 and height=1 and (holds+1)>hour;");
        row("one each hour", new int[] {g.hoists(1, 2, -1), g.hoists(1, 2, 0), g.hoists(1, 2, 1)}, 2, 0, 1);
    }

    private static void peaceAndStrings() {
        promise = 29;
        ForestOfPoles f = small();
        f.pole(30, 9);
        row("no flag", new int[] {f.peace(0), f.peace(1)}, -1, -1);
        f.hoist(0, 0);
        due("alone", f.peace(0), 0);
        f.hoist(1, 2);
        row("height 0, and some pole to be cut", new int[] {f.peace(0), f.peace(1)}, -1, -1);
        f.hour(1);
        row("4 and 3", new int[] {f.peace(0), f.peace(1)}, 0, 20 - 2);
        f.hoist(2, 2);
        f.hour(1);
        // heights: power 0 8 on pole 0, power 1 6 and power 2 4 on pole 2
        row("8, 6, 4", new int[] {f.peace(0), f.peace(1), f.peace(2)}, 0, 20 - 5, -1);
        f.hoist(2, 1);
        f.hour(1);
        // 12 on pole 0; 9 and 8 on pole 2; 4 on pole 1
        row("12, 9, 8", new int[] {f.peace(0), f.peace(1), f.peace(2)}, 0, 20 - 8, -1);
        row("others", new int[] {f.peace(3), f.peace(-1), f.peace(MAX)}, -1, -1, -1);
        f = ruledBy("climbs 1;");
        f.hoist(0, 0);
        f.hoist(1, 1);
        f.hour(1);
        row("height 1, and some pole to be cut", new int[] {f.peace(0), f.peace(1)}, -1, -1);
        f.hour(1);
        row("height 2", new int[] {f.peace(0), f.peace(1)}, 9, 19);
        f.hoist(2, 0);
        f.hour(1);
        row("others lower on its pole", new int[] {f.peace(0), f.peace(1), f.peace(2)}, 8, 18, -1);
        f = new ForestOfPoles();
        f.pole(1, 0);
        f.pole(1, 0);
        f.power(1, 0);
        f.power(1, 0);
        f.hoist(0, 0);
        f.hoist(1, 1);
        f.hour(1);
        due("one foot can't be cut from one", f.peace(0), -1);
        f = ruledBy("climbs 5;");
        f.pole(8, 0);
        f.hoist(0, 0);
        f.hoist(1, 0);
        f.hoist(0, 1);
        f.hoist(2, 2);
        f.hour(1);
        // height 5: power 0 on poles 0 and 1, power 1 with it on pole 0, power 2 on pole 2
        row("one of its poles is free, the other one is cut", new int[] {f.peace(0), f.peace(1), f.peace(2)},
                20 - 4 + 8 - 4, -1, 20 - 4 + 10 - 4);
        due("so it has peace", f.prune(0, 16) == 4 && f.prune(2, 4) == 4, true);
        row("so it has peace", new int[] {f.peace(0), f.ofPower(0, 3), f.ofPower(1, 3), f.ofPower(2, 3)}, 0, 5, 4, 4);
        f.undo();
        f.undo();
        f.hoist(1, 1);
        f.hour(1);
        f.prune(1, 3);
        row("others as high on its only pole that high", new int[] {f.peace(0), f.ofPower(0, 3)}, -1, 10);
        peaceOnSeveralPoles();
        promise = 30;
        f = small();
        f.hoist(0, 0);
        f.hoist(1, 0);
        f.hoist(2, 1);
        row("nobody, and nobody would be it", new int[] {f.strings(0), f.strings(1)}, -1, -1);
        f.hour(1);
        // 4 and 3 on pole 0, 4 on pole 1, power 0 has it
        row("strings", new int[] {f.strings(0), f.strings(1)}, 17, -1);
        f.blow(0);
        row("without wind nobody", new int[] {f.strings(0), f.strings(1)}, 0, 0);
        f.blow(1);
        f.lower(0, 0);
        row("at once", new int[] {f.strings(0), f.strings(1)}, 0, 0);
        row("others", new int[] {f.strings(2), f.strings(-1), f.strings(MIN)}, -1, -1, -1);
        row("nothing is changed", new int[] {f.ofPole(0, 0), f.ofPole(1, 0)}, 20, 10);
        f = ruledBy("counts tall>3;");
        f.hoist(0, 0);
        f.hour(1);
        due("so that none would be it", f.strings(0), 17);
    }

    /** Power 0 on poles 0 and 1, another one with it on pole 1 alone, and later on both. */
    private static void peaceOnSeveralPoles() {
        ForestOfPoles f = ruledBy("climbs 1;");
        f.hoist(0, 0);
        f.hoist(0, 1);
        f.hoist(1, 1);
        due("height 0, others as high on one of its poles", f.peace(0), -1);
        f.hour(1);
        due("height 1, others as high on one of its poles", f.peace(0), -1);
        f.hour(1);
        row("height 2, others as high on one of its poles", new int[] {f.peace(0), f.peace(1)}, 10 - 1, -1);
        f.prune(1, 9);
        row("others lower than it on one of its poles", new int[] {f.peace(0), f.ofPower(0, 3)}, 0, 2);
        f.undo();
        f.hoist(2, 0);
        due("others lower on the other one", f.peace(0), 10 - 1);
        f.prune(0, 18);
        f.hour(2);
        // 2, 2 on pole 0, which is 2 tall; 4, 4 on pole 1
        row("others as high on the one, its own lower on the other", new int[] {f.peace(0), f.peace(1), f.peace(2)}, -1, -1, -1);
        f.prune(1, 8);
        row("others as high on both", new int[] {f.peace(0), f.ofPower(0, 3), f.ofPower(1, 3), f.ofPower(2, 3)}, -1, 2, 2, 2);
    }

    private static void patterns() {
        promise = 31;
        ForestOfPoles f = new ForestOfPoles();
        row("no powers", new int[] {f.marks(0), f.marks(1)}, 0, -1);
        f.power(1, 0b000000111);
        f.power(1, 0b000000100);
        f.power(1, 0b100000001);
        f.power(1, 0b000000111);
        row("marks", new int[] {f.marks(1), f.marks(3), f.marks(5), f.marks(6), f.marks(7), f.marks(9), f.marks(15)}, 0, 1, 2, 1, 3, -1, -1);
        row("others", new int[] {f.marks(16), f.marks(-1), f.marks(MIN), f.marks(MAX)}, -1, -1, -1, -1);
        promise = 32;
        row("behind", new int[] {f.behind(0), f.behind(1), f.behind(2), f.behind(3)}, 0, -1, -1, 0);
        f.power(1, 0b000000001);
        f.power(1, 0b001000100);
        row("behind", new int[] {f.behind(1), f.behind(4), f.behind(2), f.behind(5)}, 4, 1, 5, 2);
        row("others", new int[] {f.behind(6), f.behind(-1), f.behind(MAX)}, -1, -1, -1);
        promise = 33;
        // rows: (3,0,0) (1,0,0) (1,0,1) (3,0,0) (1,0,0) (1,0,1)
        due("afar()", f.afar(), 3);
        due("afar()", new ForestOfPoles().afar(), 0);
        due("afar()", small().afar(), 0);
    }

    private static void mights() {
        ForestOfPoles f = new ForestOfPoles();
        promise = 34;
        due("no power", f.might(0, 1, false), -1);
        promise = 35;
        due("no power", f.veto(5), 0);
        f.power(4, 0);
        f.power(2, 0);
        f.power(1, 0);
        promise = 34;
        // of six orders at 5: 012 by 1, 021 by 2, 102 by 0, 120 by 0, 201 by 0, 210 by 0
        row("at 5", new int[] {f.might(0, 5, false), f.might(0, 5, true), f.might(1, 5, false), f.might(1, 5, true), f.might(2, 5, false),
            f.might(2, 5, true)}, 2, 3, 1, 6, 1, 6);
        row("at 7", new int[] {f.might(2, 7, false), f.might(2, 7, true)}, 1, 3);
        row("at 1", new int[] {f.might(0, 1, false), f.might(0, 1, true)}, 1, 3);
        row("at 8 nobody", new int[] {f.might(0, 8, false), f.might(0, 8, true), f.might(0, 99, false)}, 0, 1, 0);
        row("others", new int[] {f.might(0, 0, false), f.might(0, 100, true), f.might(3, 5, false), f.might(-1, 5, true), f.might(MAX, MIN, true)},
            -1, -1, -1, -1, -1);
        promise = 35;
        row("veto", new int[] {f.veto(1), f.veto(3), f.veto(4), f.veto(5), f.veto(6), f.veto(7), f.veto(8), f.veto(99)}, 0, 0, 1, 1, 3, 7, 7, 7);
        row("others", new int[] {f.veto(0), f.veto(100), f.veto(-5)}, -1, -1, -1);
        promise = 36;
        // of 10 at 5: 6 and 4/6, 1 and 4/6, 1 and 4/6; two are left
        row("shares", new int[] {f.shares(0, 5, 10), f.shares(1, 5, 10), f.shares(2, 5, 10)}, 7, 2, 1);
        // of 7: 4 and 4/6, 1 and 1/6, 1 and 1/6; one is left
        row("shares", new int[] {f.shares(0, 5, 7), f.shares(1, 5, 7), f.shares(2, 5, 7)}, 5, 1, 1);
        // of 8: 5 and 2/6, 1 and 2/6, 1 and 2/6; one is left
        row("shares", new int[] {f.shares(0, 5, 8), f.shares(1, 5, 8), f.shares(2, 5, 8)}, 6, 1, 1);
        row("shares", new int[] {f.shares(0, 5, 9999), f.shares(1, 5, 9999), f.shares(2, 5, 9999)}, 6666, 1667, 1666);
        row("nothing", new int[] {f.shares(0, 5, 0), f.shares(0, 8, 100), f.shares(2, 99, 9999)}, 0, 0, 0);
        row("others", new int[] {f.shares(3, 5, 1), f.shares(-1, 5, 1), f.shares(0, 0, 1), f.shares(0, 100, 1), f.shares(0, 5, -1),
            f.shares(0, 5, 10000), f.shares(MIN, MIN, MIN)}, -1, -1, -1, -1, -1, -1, -1);
    }

    private static int[] change(int c, int t) {
        ForestOfPoles f = new ForestOfPoles();
        return new int[] {f.change(c, t, 0), f.change(c, t, 1), f.change(c, t, 2)};
    }

    private static void changing() {
        promise = 37;
        row("change(10, 1)", change(10, 1), 4, 4, 1);
        row("change(0, 0)", change(0, 0), 1, 0, 1);
        row("change(0, 99)", change(0, 99), 1, 0, 1);
        row("change(999, 0)", change(999, 0), 48, 333, 16);
        // 7, 8, 10, 13, 17 pence in 1 .. 5 hours
        row("change(7, 1)", change(7, 1), 4, 13, 4);
        // 99, 198, 297 pence in 1 .. 3 hours
        row("change(99, 99)", change(99, 99), 1, 99, 1);
        // 5652 / 48: 999 and 47 times 99
        row("change(999, 99)", change(999, 99), 48, 471, 4);
        ForestOfPoles f = new ForestOfPoles();
        row("others", new int[] {f.change(-1, 1, 0), f.change(1000, 1, 0), f.change(1, -1, 0), f.change(1, 100, 0), f.change(1, 1, 3),
            f.change(1, 1, -1), f.change(MAX, MAX, 0)}, -1, -1, -1, -1, -1, -1, -1);
    }

    private static void rhythms() {
        ForestOfPoles f = new ForestOfPoles();
        promise = 38;
        row("others", new int[] {f.found(100, true), f.found(-2, true), f.found(MAX, false), f.found(MIN, false), f.about(5)}, -2, -2, -2, -2, 0);
        promise = 39;
        due("all", f.rhythms(false), 210);
        // every place has a pole in twenty of them, one of each step
        due("next", f.rhythms(true), 0);
        promise = 38;
        due("found(3, true)", f.found(3, true), 1);
        promise = 39;
        due("one of each step", f.rhythms(false), 20);
        promise = 38;
        due("found(9, true)", f.found(9, true), 2);
        promise = 39;
        // steps 1, 2, 3, 6
        due("steps that part 6", f.rhythms(false), 4);
        due("0 is of steps 1 and 3", f.rhythms(true), 0);
        promise = 38;
        due("found(1, false)", f.found(1, false), 3);
        promise = 39;
        // steps 3 and 6 are left; 0 is of 3 alone
        row("rhythms", new int[] {f.rhythms(false), f.rhythms(true)}, 2, 0);
        f.found(0, false);
        row("one alone", new int[] {f.rhythms(false), f.rhythms(true)}, 1, -1);
        f.found(0, true);
        row("none", new int[] {f.rhythms(false), f.rhythms(true)}, 0, -1);
        promise = 38;
        due("the same again", f.found(0, true), 6);
        due("seven", f.found(99, true), 7);
        due("eight", f.found(98, true), 8);
        due("a ninth", f.found(97, true), -2);
        due("about(5)", f.about(5), 8);
        due("none any more", f.found(-1, true), 0);
        promise = 39;
        due("all", f.rhythms(false), 210);
        f.found(7, true);
        f.found(7, false);
        due("both ways", f.rhythms(false), 0);
        f.found(-1, false);
        f.found(0, true);
        due("60 is of ten of twenty", f.rhythms(true), 60);
        f.found(60, false);
        due("60 is told", f.rhythms(true) != 60, true);
    }

    private static int[] firstOrder(ForestOfPoles f, int n) {
        int[] order = new int[n];
        for (int i = 0; i < n; i++) {
            order[i] = f.orders(i);
        }
        return order;
    }

    private static void orders() {
        ForestOfPoles f = new ForestOfPoles();
        promise = 41;
        row("of nobody", new int[] {f.orders(-1), f.orders(0), f.orders(-2)}, 1, -1, -1);
        promise = 40;
        due("no powers", f.ahead(0, 1), -2);
        for (int i = 0; i < 4; i++) {
            f.power(1, i);
        }
        row("others", new int[] {f.ahead(0, 0), f.ahead(0, 4), f.ahead(4, 0), f.ahead(-2, 0), f.ahead(0, -1), f.ahead(MAX, MIN), f.about(6)},
            -2, -2, -2, -2, -2, -2, 0);
        promise = 41;
        due("all", f.orders(-1), 24);
        row("first", firstOrder(f, 4), 0, 1, 2, 3);
        promise = 40;
        due("ahead(3, 1)", f.ahead(3, 1), 1);
        due("ahead(1, 0)", f.ahead(1, 0), 2);
        promise = 41;
        due("2 anywhere", f.orders(-1), 4);
        row("first", firstOrder(f, 4), 2, 3, 1, 0);
        row("others", new int[] {f.orders(4), f.orders(-2), f.orders(MAX), f.orders(MIN)}, -1, -1, -1, -1);
        promise = 42;
        row("surely", new int[] {f.surely(3, 0), f.surely(0, 3), f.surely(3, 1), f.surely(2, 0), f.surely(0, 2)}, 1, 0, 1, 0, 0);
        row("others", new int[] {f.surely(0, 0), f.surely(0, 4), f.surely(-1, 0), f.surely(MAX, MIN)}, -1, -1, -1, -1);
        promise = 40;
        for (int i = 3; i <= 10; i++) {
            due("the same again", f.ahead(3, 1), i);
        }
        due("an eleventh", f.ahead(3, 1), -2);
        due("about(6)", f.about(6), 10);
        due("none any more", f.ahead(-1, -7), 0);
        promise = 41;
        due("all again", f.orders(-1), 24);
        f.ahead(0, 1);
        f.ahead(1, 2);
        f.ahead(2, 0);
        row("none", new int[] {f.orders(-1), f.orders(0), f.orders(3)}, 0, -1, -1);
        promise = 42;
        row("none", new int[] {f.surely(0, 1), f.surely(3, 0)}, -1, -1);
        promise = 41;
        f.ahead(-1, 0);
        f.power(1, 1);
        f.power(1, 1);
        due("of six", f.orders(-1), 720);
        promise = 42;
        due("nothing is sure", f.surely(0, 5), 0);
    }

    private static void images() {
        promise = 43;
        ForestOfPoles f = small();
        read(f, "climbs 7;");
        f.by(0);
        f.hoist(0, 0);
        f.hour(2);
        f.found(4, true);
        f.ahead(0, 1);
        put(f, "blow 5;");
        due("image()", f.image(), 2);
        int[] then = about(f);
        int[] isThen = is(f);
        promise = 44;
        for (int turn = 0; turn < 2; turn++) {
            f.text();
            read(f, "climbs 1;blow");
            f.by(-1);
            f.undo();
            f.undo();
            f.lower(0, 0);
            f.pole(9, 9);
            f.power(9, 9);
            f.found(-1, true);
            f.found(7, false);
            f.ahead(-1, 0);
            f.ahead(2, 0);
            f.ahead(2, 1);
            f.prune(0, 3);
            f.hour(5);
            put(f, "hou");
            due("back()", f.back(), 2);
            then[7] = 3;
            row("about, but for the tape", about(f), then);
            row("is", is(f), isThen);
            row("a flag", new int[] {f.flag(0, 0, 0), f.flag(0, 0, 1), f.flag(0, 0, 2), f.ofPole(0, 0)}, 14, 12, 7, 20);
            row("the fault stays", new int[] {f.fault(0), f.fault(1)}, 1, 13);
            row("finds, claims, book", new int[] {f.rhythms(false), f.orders(-1), f.surely(0, 1), f.book(-1, 0)}, 20, 3, 1, 1);
            put(f, "blow 5;");
        }
        due("a text has the next number", f.text(), 1);
        due("steps can be taken back", f.undo(), 2);
        due("an hour less", f.is(0), 1);
        promise = 43;
        due("image()", f.image(), 1);
        f.hour(1);
        due("back()", f.back(), 1);
        due("texts", f.about(2), 2);
        ForestOfPoles g = new ForestOfPoles();
        read(g, "pole 5 at 5;power 1;hoist 0 on 0;hour 2;");
        g.played(0);
        g.image();
        g.back();
        due("an image of texts", g.back(), 2);
        due("played again: hoist can't be on 0 by 0", g.played(0), 2);
    }

    private static void lastHour() {
        ForestOfPoles f = small();
        read(f, "hour 60;");
        read(f, "blow 0;hour 1;");
        for (int i = 0; i < 166; i++) {
            f.hour(60);
        }
        promise = 9;
        due("hour", f.is(0), 9960);
        due("hour(40)", f.hour(40), -2);
        due("nothing is done", f.is(0), 9960);
        promise = 22;
        f.hoist(0, 0);
        due("9999 doesn't bound it", f.foretoldHeight(60, 0, 1), -1);
        promise = 14;
        due("those that can pass do", f.played(0), 0);
        row("hour, steps", new int[] {f.is(0), f.about(4)}, 9999, 30);
        promise = 9;
        due("hour(1)", f.hour(1), -2);
        promise = 14;
        int x = f.is(3);
        f.blow(1);
        due("the second clause can't be", f.played(1), 1);
        row("wind, x", new int[] {f.is(1), f.is(3)}, 0, x);
        promise = 24;
        due("9999 doesn't bound it", f.foretoldWind(1), x % 10);
        promise = 15;
        // 89 mod 7 is 5: an hour, but 9999 stays
        f.centuries(5, 1);
        row("is", is(f), 9999, 0, f.is(2), (89 * 283 + 181) % 30307);
        promise = 28;
        f.blow(3);
        f.lower(0, 0);
        row("hoists", new int[] {f.hoists(0, 1, -1), f.hoists(0, 1, 0)}, 1, 0);
        promise = 16;
        for (int i = 0; i < 30; i++) {
            f.undo();
        }
        due("undo()", f.undo(), -1);
        due("hour", f.is(0) < 9999, true);
    }
}
