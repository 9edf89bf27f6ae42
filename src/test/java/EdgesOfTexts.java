/** Edges of the tape and of texts: the terms of ==== 1 about them, promises 4 to 7. */
final class EdgesOfTexts {
    private static final String NUMBER = "0123456789";
    private static final String LETTERS = "fsdnckyzmxtvw";
    private static final String FACTOR = "[" + NUMBER + LETTERS;
    private static final String PIECE = "!(" + FACTOR;
    private static final String SIGNS = "+-*/%";
    private static final String EACH = "(1=1)";
    private static final int MOST = 0x7fffffff;

    private final Sentences document;
    private final Dues dues;

    EdgesOfTexts(Sentences document, Dues dues) {
        this.document = document;
        this.dues = dues;
    }

    void tryAll() {
        sizes();
        clauses();
        bounds();
        conditions();
        numbers();
        letters();
        wraps();
        refusals();
        faults();
        depths();
        tape();
        reading();
    }

    private int read(int which, NailStain x, String text) {
        int n = Dues.put(x, text);
        return which == 0 ? x.rule(n) : which == 1 ? x.sand(n) : x.stain(n);
    }

    private void answers(String text, int want) {
        dues.due(text, Dues.rule(new NailStain(), text), want);
    }

    private void allThree(String behindItsLetter, int want) {
        for (int which = 0; which < 3; which++) {
            String text = "yge".charAt(which) + behindItsLetter;
            dues.due(text, read(which, new NailStain(), text), want);
        }
    }

    /** y by an E, at the first rivet. */
    private int valueOf(String e) {
        NailStain x = new NailStain();
        dues.due("y" + e + EACH, Dues.rule(x, "y" + e + EACH), 1);
        x.build(3, 1);
        return x.rivet(0, 0, 0, 0);
    }

    private boolean holds(String c) {
        NailStain x = new NailStain();
        dues.due("y1(" + c + ")", Dues.rule(x, "y1(" + c + ")"), 1);
        x.build(3, 1);
        return x.rivet(0, 0, 0, 0) == 1;
    }

    private void sizes() {
        document.term("TEXTS: at most 200 bytes", () -> {
            String ofTwoHundred = "11(" + "1=1|".repeat(48) + "1=1)";
            allThree(ofTwoHundred, 1);
            for (int which = 0; which < 3; which++) {
                NailStain x = new NailStain();
                Dues.put(x, "yge".charAt(which) + "111(" + "1=1|".repeat(48) + "1=1)");
                int answer = which == 0 ? x.rule(201) : which == 1 ? x.sand(201) : x.stain(201);
                dues.due("201 bytes", answer, -1);
                dues.due("the tape stays", x.count(4), 220);
            }
        });
        document.term("no blanks", () -> {
            String text = "y1+f*[22](!f=1&(s<2)|d>0);z2(1=1)";
            answers(text, 2);
            for (int at = 0; at <= text.length(); at++) {
                answers(text.substring(0, at) + " " + text.substring(at), -1000 - at);
            }
        });
        document.term("(none at first)", () -> {
            NailStain x = new NailStain();
            for (int what = 5; what <= 7; what++) {
                dues.due("count(" + what + ")", x.count(what), 0);
            }
            x.build(3, 1);
            dues.due("bury(9) without a sand", x.bury(9), 6);
            for (int what = 0; what < 3; what++) {
                dues.due("rivet without texts, what " + what, x.rivet(1, 0, 1, what), 0);
            }
            dues.due("lasts without a stain", x.lasts(1, 100), -2);
        });
    }

    private void clauses() {
        document.term("CLAUSES (14 at most)", () -> {
            for (int which = 0; which < 3; which++) {
                String clause = "yge".charAt(which) + "1(1=1)";
                String fourteen = (clause + ";").repeat(13) + clause;
                NailStain x = new NailStain();
                dues.due("14 clauses", read(which, x, fourteen), 14);
                dues.due("15 clauses", read(which, x, fourteen + ";" + clause), -4112);
                dues.due("14 stay", x.count(5 + which), 14);
            }
        });
        document.term("with a ; (59) between two: a letter, E, and (C)", () -> {
            answers("y1(1=1);z2(1=1)", 2);
            answers("y1(1=1)z2(1=1)", -1007);
            answers("y1(1=1);;z2(1=1)", -1008);
            answers("y1(1=1);z2(1=1);", -1016);
            answers(";y1(1=1)", -1000);
            answers("y1(1=1):z2(1=1)", -1007);
            answers("y1(1=1)<z2(1=1)", -1007);
            answers("1(1=1)", -1000);
            answers("(1=1)", -1000);
            answers("y1=1", -1002);
            answers("(1=1)y1", -1000);
            answers("y(1=1)1", -1001);
            answers("y1[1=1]", -1002);
        });
        document.term("of the first one of a letter whose C holds the E", () -> {
            NailStain x = new NailStain();
            Dues.rule(x, "z9(1=2);y1(f=0);y2(f<2);z8(f=2);y3(1=1);z7(1=1)");
            x.build(3, 1);
            for (int f = 0; f < 3; f++) {
                dues.due("y at " + f, x.rivet(f, 0, 0, 0), f + 1);
                dues.due("z at " + f, x.rivet(f, 0, 0, 1), f == 2 ? 8 : 7);
            }
            Dues.rule(x, "y1(1=2);" + "z1(1=2);".repeat(12) + "y14(1=1)");
            x.build(3, 1);
            dues.due("by the 14th", x.rivet(0, 0, 0, 0), 14);
        });
    }

    private void bounds() {
        document.term("(beyond its bounds the bound; none: 0). THE RULE: y, z (-3000 to 3000)", () -> {
            NailStain x = new NailStain();
            Dues.rule(x, "y3000" + EACH + ";z0-3000" + EACH);
            atFirst(x, 3000, -3000);
            Dues.rule(x, "y3001" + EACH + ";z0-3001" + EACH);
            atFirst(x, 3000, -3000);
            Dues.rule(x, "y2999" + EACH + ";z0-2999" + EACH);
            atFirst(x, 2999, -2999);
            Dues.rule(x, "y0-3001" + EACH + ";z3001" + EACH);
            atFirst(x, -3000, 3000);
            Dues.rule(x, "y3000(1=2);y0-3000(2=1)");
            atFirst(x, 0, 0);
        });
        document.term("THE SAND: a added to y, b added to z (-1000 to 1000 each)", () -> {
            int[] numbers = {999, 1000, 1001, 99999};
            for (int number : numbers) {
                int held = Math.min(number, 1000);
                buried("a" + number + EACH + ";b0-" + number + EACH, held, -held);
                buried("a0-" + number + EACH + ";b" + number + EACH, -held, held);
            }
            buried("a1000(1=2)", 0, 0);
        });
        document.term("g thousandths by which a RIVET is GONE (0 to 1000)", () -> {
            goes("g0", 0, false);
            goes("g0-1", 0, false);
            goes("g1", 0, true);
            goes("g1", 1, false);
            goes("g998", 998, false);
            goes("g999", 998, true);
            goes("g999", 999, false);
            goes("g1000", 999, true);
            goes("g1001", 999, true);
            goes("g99999", 999, true);
            goes("g65536*32768", 0, false);
        });
        document.term("THE STAIN: e what it loses in a year (0 to 1000)", () -> {
            lasts("e999" + EACH, 9990, 10);
            lasts("e999" + EACH, 9991, 11);
            lasts("e1000" + EACH, 10000, 10);
            lasts("e1000" + EACH, 9001, 10);
            lasts("e1001" + EACH, 10000, 10);
            lasts("e1001" + EACH, 9001, 10);
            lasts("e0" + EACH, 1, -2);
            lasts("e0-1(t<5);e1" + EACH, 10, 15);
            lasts("e1000(1=2)", 1, -2);
        });
    }

    private void atFirst(NailStain x, int y, int z) {
        x.build(3, 1);
        dues.due("y", x.rivet(0, 0, 0, 0), y);
        dues.due("z", x.rivet(0, 0, 0, 1), z);
    }

    private void buried(String sand, int y, int z) {
        NailStain x = new NailStain();
        x.build(3, 1);
        Dues.sand(x, sand);
        x.bury(1);
        dues.due("y by " + sand, x.rivet(2, 0, 1, 0), y);
        dues.due("z by " + sand, x.rivet(2, 0, 1, 1), z);
    }

    private void goes(String g, int luck, boolean isGone) {
        NailStain x = new NailStain();
        Dues.sand(x, g + EACH);
        x.build(3, 1);
        x.seed(Dues.seedOf(luck));
        x.bury(1);
        dues.due(g + " by luck " + luck, x.rivet(0, 0, 0, 2), isGone ? 1 : 0);
    }

    private void lasts(String stain, int v, int want) {
        NailStain x = new NailStain();
        Dues.stain(x, stain);
        dues.due(v + " by " + stain, x.lasts(v, 0), want);
    }

    private static String truth(boolean is) {
        return is ? "1=1" : "1=2";
    }

    private void is(String c, boolean want) {
        dues.due("does it hold: " + c, holds(c) ? 1 : 0, want ? 1 : 0);
    }

    private void conditions() {
        document.term("C: PARTS with a | between two, one of which must hold; a PART: PIECES with an & between two, all"
                + " of which must; a PIECE: !PIECE, (C), or E, one of < > =, and E.", () -> {
            for (int i = 0; i < 8; i++) {
                boolean a = (i & 1) != 0;
                boolean b = (i & 2) != 0;
                boolean c = (i & 4) != 0;
                is(truth(a) + "|" + truth(b) + "|" + truth(c), a || b || c);
                is(truth(a) + "&" + truth(b) + "&" + truth(c), a && b && c);
                is(truth(a) + "|" + truth(b) + "&" + truth(c), a || b && c);
                is(truth(a) + "&" + truth(b) + "|" + truth(c), a && b || c);
                is("(" + truth(a) + "|" + truth(b) + ")&" + truth(c), (a || b) && c);
                is("!" + truth(a) + "|" + truth(b) + "&!" + truth(c), !a || b && !c);
                is("!(" + truth(a) + "|" + truth(b) + ")&" + truth(c), !(a || b) && c);
                is("!!" + truth(a) + "&(" + truth(b) + ")|(!(" + truth(c) + "))", a && b || !c);
            }
        });
        document.term("one of < > =, and E", () -> {
            for (int a = 4; a <= 6; a++) {
                is(a + "<5", a < 5);
                is(a + ">5", a > 5);
                is(a + "=5", a == 5);
                is("!" + a + "<5", a >= 5);
                is("!" + a + ">5", a <= 5);
                is("!" + a + "=5", a != 5);
            }
        });
    }

    private void number(String e, int want) {
        dues.due("y of " + e, valueOf(e), want);
    }

    private void numbers() {
        document.term("E: TERMS with + or - between two; a TERM: FACTORS with one of * / % between two; from the left"
                + " on; a FACTOR: [E]", () -> {
            number("10-2-3", 5);
            number("20-3+4", 21);
            number("2+3*4", 14);
            number("2*3+4", 10);
            number("[2+3]*4", 20);
            number("20-6/2", 17);
            number("100/7/2", 7);
            number("100/7*2", 28);
            number("7*2/4", 3);
            number("7%4*2", 6);
            number("17%10%4", 3);
            number("60/2%7", 2);
            number("10-[2-3]", 11);
            number("[[[5]]]", 5);
        });
        document.term("a number of one to five digits", () -> {
            number("0", 0);
            number("9", 9);
            number("00000", 0);
            number("00009", 9);
            number("99999-97000", 2999);
            answers("y(1=1)", -1001);
            answers("y999990(1=1)", -2006);
            answers("y1+000000(1=1)", -2008);
            answers("y[123456](1=1)", -2007);
            answers("y1(123456=1)", -2008);
            answers("y1(1=123456)", -2010);
            answers("y1(1=12345)", 1);
        });
    }

    private void letters() {
        document.term("or a letter: f the STATION, s the STRAKE, d the SIDE", () -> {
            for (int c = 0; c < 256; c++) {
                String more = String.valueOf((char) c) + EACH;
                allThree(more, LETTERS.indexOf(c) >= 0 || NUMBER.indexOf(c) >= 0 ? 1 : c == '[' ? -1002 : -1001);
            }
            NailStain x = new NailStain();
            Dues.rule(x, "yf*100+s*10+d" + EACH);
            x.build(24, 8);
            dues.due("the first", x.rivet(0, 0, 0, 0), 0);
            dues.due("the last", x.rivet(23, 7, 1, 0), 2371);
        });
        document.term("n how many STATIONS the ship has, c how far the STATION is from the nearer end (0 at it), k how"
                + " many STRAKES", () -> {
            int[] stations = {3, 4, 5, 23, 24};
            for (int n : stations) {
                NailStain x = new NailStain();
                Dues.rule(x, "yc" + EACH + ";zn*10+k" + EACH);
                x.build(n, n % 8 + 1);
                for (int f = 0; f < n; f++) {
                    dues.due("c at " + f + " of " + n, x.rivet(f, 0, 0, 0), Math.min(f, n - 1 - f));
                }
                dues.due("n and k", x.rivet(0, 0, 0, 1), n * 10 + n % 8 + 1);
            }
        });
        document.term("in THE SAND y, z where it was, m the MOUND above the STATION, x LUCK", () -> {
            NailStain x = new NailStain();
            Dues.sand(x, "ax" + EACH + ";bm+y-z" + EACH);
            x.build(3, 1);
            x.mound(0, 1000);
            x.lies(0, 0, 0, -5, 7);
            x.seed(Dues.seedOf(999));
            int second = Dues.chance(Dues.seedOf(999), 2) % 1000;
            x.bury(1);
            dues.due("luck 999", x.rivet(0, 0, 0, 0), 994);
            dues.due("y and z below a mound of 1000", x.rivet(0, 0, 0, 1), 7 + 988);
            dues.due("the next one's luck", x.rivet(0, 0, 1, 0), second);
            dues.due("no mound at first", x.rivet(1, 0, 0, 1), 0);
        });
        document.term("in THE STAIN t the year (0 on), v what is left, w how wet it is", () -> {
            lasts("e1(t=0)", 1, 1);
            lasts("e1(t=1)", 1, 2);
            lasts("e1(t=1999)", 1, 2000);
            lasts("e1(t=2000)", 1, -2);
            lasts("ev" + EACH, 1000, 1);
            lasts("ev" + EACH, 10000, 10);
            lasts("e3(v=10);ev" + EACH, 10, 2);
            NailStain x = new NailStain();
            Dues.stain(x, "ew" + EACH);
            dues.due("not wet", x.lasts(100, 0), -2);
            dues.due("as wet as can be", x.lasts(100, 100), 1);
            dues.due("one more", x.lasts(101, 100), 2);
        });
        document.term("others are 0", () -> {
            NailStain x = new NailStain();
            Dues.rule(x, "y9+y+z+m+x+t+v+w" + EACH);
            Dues.sand(x, "a1+t+v+w" + EACH);
            Dues.stain(x, "e1+f+s+d+c+y+z+m+x" + EACH);
            x.mound(2, 500);
            x.build(3, 2);
            dues.due("in the rule", x.rivet(2, 1, 1, 0), 9);
            x.lasts(7, 7);
            x.bury(1);
            dues.due("in the sand", x.rivet(2, 1, 1, 0), 10);
            dues.due("in the stain", x.lasts(7, 7), 7);
            x.build(3, 2);
            dues.due("in the rule again", x.rivet(2, 1, 1, 0), 9);
        });
    }

    private void wraps() {
        document.term("All is reckoned with 32 bits, as the machine does", () -> {
            String most = "[65536*32768-1]";
            String least = "[65536*32768]";
            is(most + ">0", true);
            is(least + "<0", true);
            is(most + "+1=" + least, true);
            is(most + "+1<0", true);
            is(least + "-1=" + most, true);
            is(most + "*2=0-2", true);
            is(most + "*" + most + "=1", true);
            is(least + "*[0-1]=" + least, true);
            is(least + "/[0-1]=" + least, true);
            is(least + "%[0-1]=0", true);
            is("0-" + least + "=" + least, true);
            is(least + "<" + most, true);
            is("46341*46341<0", true);
            is("46340*46340>0", true);
            is("99999*99999=" + 99999 * 99999 / 65536 + "*65536+" + 99999 * 99999 % 65536, true);
            number("65536*65536+5", 5);
            number("65536*65535+65536-7", -7);
            number("[0-7]/2", -3);
            number("[0-7]%3", -1);
            number("7%[0-3]", 1);
            number(most + "+1", -3000);
            number(least + "-1", 3000);
            number(most, 3000);
            buried("a65536*32768-1" + EACH + ";b65536*32768" + EACH, 1000, -1000);
            buried("a65536*65536+3" + EACH + ";b65536*65535+65536-3" + EACH, 3, -3);
            lasts("e65536*32768" + EACH, 1, -2);
            lasts("e65536*32768-1" + EACH, 1001, 2);
        });
    }

    private void refusals() {
        document.term("what is divided by 0 is REFUSED: then a C does not hold, an E is 0", () -> {
            number("5/0", 0);
            number("5%0", 0);
            number("0/0", 0);
            number("9+5/0", 0);
            number("9-[1-5%[3-3]]", 0);
            number("0/5", 0);
            is("5/0=0", false);
            is("5%0=0", false);
            is("0=5/0", false);
            is("0=5%0", false);
            is("!5/0=1", false);
            is("!0%0>0", false);
            is("0/5=0", true);
            NailStain x = new NailStain();
            Dues.rule(x, "y1(f/[f-1]=0);y2(1=1);z8/[f-2](1=1);z5(1=1)");
            x.build(3, 1);
            dues.due("the C holds", x.rivet(0, 0, 0, 0), 1);
            dues.due("the C is refused", x.rivet(1, 0, 0, 0), 2);
            dues.due("the E is not", x.rivet(1, 0, 0, 1), -8);
            dues.due("the E is refused", x.rivet(2, 0, 0, 1), 0);
            buried("a9+1/y" + EACH + ";b8%z" + EACH, 0, 0);
            goes("g1000/[x-7]", 7, false);
            lasts("e1/t" + EACH, 1, 2);
        });
        document.term("Of a C as much is asked, from the left, as matters.", () -> {
            is("1=1|5/0=0", true);
            is("1<2|5/0=0", true);
            is("2>1|5/0=0", true);
            is("5/0=0|1=1", false);
            is("1=2&5/0=0|1=1", true);
            is("1=1&5/0=0|1=1", false);
            is("1=2|5/0=0", false);
            is("!(1=2&5/0=0)", true);
            is("(1=1|5%0=0)&1=1", true);
            is("1=1|1=2|5/0=0", true);
            is("1=1|1=2&5/0=0", true);
            is("1=1&1=2&5/0=0|1=1", true);
        });
    }

    private void next(String text, String can) {
        for (int c = 0; c < 256; c++) {
            String more = text + (char) c;
            int answer = Dues.rule(new NailStain(), more);
            boolean stands = answer != -1000 - text.length();
            dues.due("can " + c + " stand behind " + text, stands ? 1 : 0, can.indexOf(c) >= 0 ? 1 : 0);
            if (stands) {
                dues.yes("then the end can't, or all is well: " + more, answer == -1001 - text.length() || answer > 0);
            }
        }
    }

    private void faults() {
        document.term("FAULTS, the first from the left: 1 what can't stand there (the end, too)", () -> {
            next("y", FACTOR);
            next("y1", SIGNS + NUMBER + "(");
            next("yf", SIGNS + "(");
            next("y12345+", FACTOR);
            next("y1-", FACTOR);
            next("y1*", FACTOR);
            next("y1/", FACTOR);
            next("y1%", FACTOR);
            next("y[", FACTOR);
            next("y[f", SIGNS + "]");
            next("y[f]", SIGNS + "(");
            next("y1(", PIECE);
            next("y1(!", PIECE);
            next("y1((", PIECE);
            next("y1([", FACTOR);
            next("y1(f", SIGNS + "<>=");
            next("y1([f]", SIGNS + "<>=");
            next("y1(f<", FACTOR);
            next("y1(f>", FACTOR);
            next("y1(f=", FACTOR);
            next("y1(f=f", SIGNS + "&|)");
            next("y1(!f=f", SIGNS + "&|)");
            next("y1((f=f", SIGNS + "&|)");
            next("y1((f=f)", "&|)");
            next("y1(!(f=f)", "&|)");
            next("y1(f=f&", PIECE);
            next("y1(f=f|", PIECE);
            next("y1(f=f)", ";");
            next("y1(f=f);", "yz");
            for (int c = 0; c < 256; c++) {
                for (int which = 0; which < 3; which++) {
                    boolean can = (which == 0 ? "yz" : which == 1 ? "abg" : "e").indexOf(c) >= 0;
                    dues.due("first byte " + c, read(which, new NailStain(), (char) c + "1" + EACH), can ? 1 : -1000);
                }
            }
        });
        document.term("(the end, too)", () -> {
            String text = "y12+f*[s](!f=1&(s<2)|d>0);z2(1=1)";
            for (int end = 1; end < text.length(); end++) {
                answers(text.substring(0, end), end == text.indexOf(';') ? 1 : -1000 - end);
            }
            answers("y11(" + "1=1|".repeat(49), -1200);
        });
        document.term("2 a sixth digit, at it", () -> {
            answers("y12345(1=1)", 1);
            answers("y123456(1=1)", -2006);
            answers("y1234567890(1=1)", -2006);
            answers("y12345x(1=1)", -1006);
            answers("y123456", -2006);
            answers("y1+12345+123456", -2014);
            answers("y1(00000=000000)", -2014);
        });
        document.term("4 a 15th CLAUSE, at its letter (if that can stand there)", () -> {
            String fourteen = "y1(1=1);".repeat(14);
            answers(fourteen.substring(0, 111), 14);
            answers(fourteen, -1112);
            answers(fourteen + "y", -4112);
            answers(fourteen + "z?", -4112);
            answers(fourteen + "a1(1=1)", -1112);
            answers(fourteen + ";", -1112);
            answers(fourteen + "1", -1112);
            answers(fourteen.substring(0, 111) + "y", -1111);
            answers("y1(1=1)" + fourteen, -1007);
        });
    }

    private void depths() {
        document.term("5 a seventh of ( [ ! that are open in one another, at it", () -> {
            for (int mask = 0; mask < 32; mask++) {
                opened(mask);
            }
        });
        document.term("(the ( of the CLAUSE counts; a ! is open till its PIECE ends; the E of a CLAUSE stands ahead of"
                + " it)", () -> {
            answers("y1(((((([", -5008);
            answers("y1((((((", -1008);
            answers("y1(!!!!!f=f&!!!!!f=f|!!!!!f=f)", 1);
            answers("y1(!!!!!f=f&!!!!!!f=f)", -5017);
            answers("y1(!!!!f=[f]&!!!!!f=f)", 1);
            answers("y1(!!!!f=[[f]])", -5010);
            answers("y1(!(!(!f=f)))", 1);
            answers("y1(!(!(!(f=f))))", -5008);
            answers("y1(!(!(!f=[f])))", -5010);
            answers("y1(!(f=f)&!!!!!f=f)", 1);
            answers("y1((!f=f)&!!!!!f=f)", 1);
            answers("y1((!f=f&!!!!f=f))", 1);
            answers("y1((!f=f&!!!!!f=f))", -5013);
            answers("y[[[[[[f]]]]]]+[[[[[[f]]]]]]((((((f=f))))))", 1);
            answers("y[[[[[[[f]]]]]]](f=f)", -5007);
            answers("y[[[[[[f]]]]]](((((((f=f)))))))", -5020);
            answers("y[[[[[[!", -1007);
            answers("y[[[[[[(", -1007);
            answers("y1((((((f=f))))));z[[[[[[f]]]]]](!!!!!f=f);y1(!!!!!f=f)", 3);
            answers("y1(f=f);z1(!!!!!!f=f)", -5016);
        });
    }

    /** Five of ( and ! behind the ( of the clause are taken, a sixth of ( ! [ is not. */
    private void opened(int mask) {
        StringBuilder open = new StringBuilder("y1(");
        StringBuilder close = new StringBuilder();
        for (int i = 0; i < 5; i++) {
            boolean isNot = (mask >> i & 1) != 0;
            open.append(isNot ? '!' : '(');
            close.append(isNot ? "" : ")");
        }
        answers(open + "f=f" + close + ")", 1);
        answers(open + "(f=f)" + close + ")", -5008);
        answers(open + "!f=f" + close + ")", -5008);
        answers(open + "[f]=f" + close + ")", -5008);
        answers(open + "f=[f]" + close + ")", -5010);
        String four = open.substring(0, 7);
        String closeFour = close.substring(0, (mask >> 4 & 1) != 0 ? close.length() : close.length() - 1);
        answers(four + "[f]=[f]" + closeFour + ")", 1);
        answers(four + "[[f]]=f" + closeFour + ")", -5008);
    }

    private void tape() {
        document.promise(4, "Twenty bytes come behind the tape, the highest of each int first: how many it has; NONE if"
                + " that would be more than 220.", () -> {
            NailStain x = new NailStain();
            for (int i = 1; i <= 11; i++) {
                dues.due("feed " + i, x.feed(0, -1, MOST, -MOST - 1, i), 20 * i);
            }
            dues.due("a 12th", x.feed(1, 2, 3, 4, 5), -1);
            dues.due("a 13th", x.feed(1, 2, 3, 4, 5), -1);
            dues.due("220 stay", x.count(4), 220);
            dues.due("its first bytes stay", x.rule(200), -1000);
            dues.due("room again", x.feed(1, 2, 3, 4, 5), 20);
            NailStain y = new NailStain();
            y.feed('y' << 24 | '1' << 16 | '(' << 8 | '1', '=' << 24 | '1' << 16 | ')' << 8 | ';', 'z' << 24, 0, 0);
            dues.due("the highest first", y.rule(7), 1);
            y.feed('y' << 24 | '1' << 16 | '(' << 8 | 'f', '=' << 24 | 'f' << 16 | '|' << 8 | 's', '=' << 24 | 's' << 16
                    | '|' << 8 | 'd', '=' << 24 | 'd' << 16 | '&' << 8 | 'c', '=' << 24 | 'c' << 16 | '&' << 8 | 'n');
            y.feed('=' << 24 | 'n' << 16 | ')' << 8, 0, 0, 0, 0);
            dues.due("one feed behind another", y.rule(23), 1);
        });
        document.term("A call that is refused (NONE, false) changes nothing but the tape, where it is told.", () -> {
            NailStain x = Views.withShip(4);
            dues.due("no such n", x.rule(0), -1);
            dues.due("the tape stays", x.count(4), 20);
            dues.due("a fault", x.rule(19), -1019);
            dues.due("the tape is empty then", x.count(4), 0);
            dues.due("the rule stays", x.count(5), 2);
        });
    }

    private void reading() {
        document.promise(5, "THE RULE by the first n bytes of the tape (1 to 200; empty then)", () -> {
            for (int n = 1; n <= 200; n++) {
                NailStain x = new NailStain();
                Dues.put(x, "y1(" + "1=1|".repeat(54));
                dues.due("the first " + n + " of 220", x.rule(n), -1000 - n);
                dues.due("empty then", x.count(4), 0);
            }
        });
        int[] promises = {5, 6, 7};
        String[] words = {"in place of the one before: how many CLAUSES; a FAULT: -1000 times its number, less its place (the"
                + " TEXT before stays); NONE: no such n, it has not so many (the tape stays).",
            "THE SAND likewise.", "THE STAIN likewise."};
        for (int which = 0; which < 3; which++) {
            int one = which;
            document.promise(promises[which], words[which], () -> readingOf(one));
        }
    }

    private int first(int which, NailStain x, int n) {
        return which == 0 ? x.rule(n) : which == 1 ? x.sand(n) : x.stain(n);
    }

    private void readingOf(int which) {
        char letter = "yae".charAt(which);
        NailStain x = new NailStain();
        dues.due("of an empty tape", first(which, x, 1), -1);
        dues.due("by a text", read(which, x, letter + "7(1=1)"), 1);
        dues.due("by another", read(which, x, letter + "5(1=1);" + letter + "6(1=1)"), 2);
        dues.due("in place of the one before", effect(which, x), 5);
        int[] refused = {-1, 0, 21, 200, 201, MOST, -MOST - 1};
        Dues.put(x, letter + "8(1=1)");
        for (int n : refused) {
            dues.due("n " + n, first(which, x, n), -1);
            dues.due("the tape stays", x.count(4), 20);
        }
        dues.due("the text stays", effect(which, x), 5);
        dues.due("the last byte of the tape", first(which, x, 20), -1007);
        dues.due("empty then", x.count(4), 0);
        dues.due("two clauses stay", x.count(5 + which), 2);
        dues.due("the text before stays", effect(which, x), 5);
        Dues.put(x, letter + "8(1=1)");
        dues.due("one byte", first(which, x, 1), -1001);
        Dues.put(x, letter + "9(1=1)");
        dues.due("the first seven", first(which, x, 7), 1);
        dues.due("empty then", x.count(4), 0);
        dues.due("nothing is left to read", first(which, x, 1), -1);
        dues.due("in place of those", effect(which, x), 9);
        dues.due("one clause", x.count(5 + which), 1);
        for (int i = 0; i < 60; i++) {
            int e = i % 2 == 0 ? 5 : 9;
            read(which, x, letter + "1+1(1=2|f+s+d>99&1=1);" + letter + e + "*1+0(!1=2&1+1=2)");
            dues.due("one after another", effect(which, x), e);
        }
    }

    /** What the text of this kind makes of the first rivet, or of a stain of 45. */
    private int effect(int which, NailStain x) {
        if (which == 2) {
            int years = x.lasts(45, 0);
            return years > 0 ? 45 / years : years;
        }
        x.build(3, 1);
        if (which == 1) {
            x.bury(1);
        }
        return x.rivet(0, 0, 0, 0);
    }
}
