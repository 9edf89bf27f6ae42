/** Promises 4 to 7: the tape and the three texts, their faults and what they reckon. */
public final class TextsTest {
    private static final Dues DUES = new Dues();

    public static void main(String[] args) {
        feed();
        readsRule();
        readsSand();
        readsStain();
        faultsOfPlace();
        faultsOfNumber();
        faultsOfClauses();
        faultsOfDepth();
        values();
        letters();
        refusals();
        conditions();
        DUES.end("TextsTest");
    }

    private static void feed() {
        NailStain x = new NailStain();
        for (int i = 1; i <= 11; i++) {
            DUES.due("feed " + i, x.feed(1, 2, 3, 4, 5), 20 * i);
        }
        DUES.due("feed beyond 220", x.feed(1, 2, 3, 4, 5), -1);
        DUES.due("the tape stays", x.count(4), 220);
        NailStain order = Dues.shipOf(0x01020304, 0, 0);
        order.lies(0, 0, 0, 258, 0);
        order.lies(0, 0, 1, 258, 0);
        order.feed(0x00000102, 0, 0, 0, 0);
        DUES.due("the highest byte first", order.check(0, 0, 3), -1);
    }

    private static void readsRule() {
        NailStain x = new NailStain();
        DUES.due("rule of an empty tape", x.rule(1), -1);
        Dues.put(x, "y7(1=1);z9(1=1)");
        DUES.due("rule(0)", x.rule(0), -1);
        DUES.due("rule(-1)", x.rule(-1), -1);
        DUES.due("rule(21)", x.rule(21), -1);
        DUES.due("the tape stays", x.count(4), 20);
        DUES.due("rule(7)", x.rule(7), 1);
        DUES.due("the tape is empty", x.count(4), 0);
        DUES.due("one clause", x.count(5), 1);
        x.build(3, 1);
        DUES.due("y by the rule", x.rivet(1, 0, 1, 0), 7);
        DUES.due("z is not told", x.rivet(1, 0, 1, 1), 0);
        DUES.due("a fault", Dues.rule(x, "y8(1=1)q"), -1007);
        DUES.due("the tape is empty", x.count(4), 0);
        DUES.due("the rule stays", x.count(5), 1);
        x.build(3, 1);
        DUES.due("y by the rule before", x.rivet(1, 0, 1, 0), 7);
        DUES.due("in place of it", Dues.rule(x, "z9(1=1);z8(1=1)"), 2);
        x.build(3, 1);
        DUES.due("y is not told", x.rivet(1, 0, 1, 0), 0);
        DUES.due("z by the first that holds", x.rivet(1, 0, 1, 1), 9);
        for (int i = 0; i < 11; i++) {
            x.feed(0, 0, 0, 0, 0);
        }
        DUES.due("rule(201)", x.rule(201), -1);
        DUES.due("the tape stays", x.count(4), 220);
        DUES.due("rule(200) of zeros", x.rule(200), -1000);
        String longest = "y1(" + "1=1|".repeat(49) + ")";
        DUES.due("200 bytes with a fault at the end", Dues.rule(x, longest), -1199);
        DUES.due("199 bytes", Dues.rule(x, "y1(" + "1=1|".repeat(48) + "1=1)"), 1);
        DUES.due("200 bytes", Dues.rule(x, "y11(" + "1=1|".repeat(48) + "1=1)"), 1);
    }

    private static void readsSand() {
        NailStain x = new NailStain();
        DUES.due("sand of an empty tape", x.sand(1), -1);
        DUES.due("sand", Dues.sand(x, "a1(1=1);b2(1=1);g3(1=1)"), 3);
        DUES.due("clauses of the sand", x.count(6), 3);
        DUES.due("y in the sand", Dues.sand(x, "y1(1=1)"), -1000);
        DUES.due("e in the sand", Dues.sand(x, "a1(1=1);e1(1=1)"), -1008);
        DUES.due("clauses stay", x.count(6), 3);
        DUES.due("others have none", x.count(5) + x.count(7), 0);
    }

    private static void readsStain() {
        NailStain x = new NailStain();
        DUES.due("stain of an empty tape", x.stain(1), -1);
        DUES.due("stain", Dues.stain(x, "e1(1=1);e2(1=1)"), 2);
        DUES.due("clauses of the stain", x.count(7), 2);
        DUES.due("a in the stain", Dues.stain(x, "a1(1=1)"), -1000);
        DUES.due("y in the stain", Dues.stain(x, "y1(1=1)"), -1000);
        DUES.due("clauses stay", x.count(7), 2);
    }

    private static void fault(String text, int want) {
        NailStain x = new NailStain();
        DUES.due(text, Dues.rule(x, text), want);
    }

    private static void faultsOfPlace() {
        fault("y", -1001);
        fault(" y1(1=1)", -1000);
        fault("Y1(1=1)", -1000);
        fault("y 1(1=1)", -1001);
        fault("ya(1=1)", -1001);
        fault("ye(1=1)", -1001);
        fault("yF(1=1)", -1001);
        fault("y-1(1=1)", -1001);
        fault("y1 (1=1)", -1002);
        fault("y1f(1=1)", -1002);
        fault("yf1(1=1)", -1002);
        fault("y1+(1=1)", -1003);
        fault("y1*/2(1=1)", -1003);
        fault("y[](1=1)", -1002);
        fault("y[1(1=1)", -1003);
        fault("y[1)(1=1)", -1003);
        fault("y1](1=1)", -1002);
        fault("y1()", -1003);
        fault("y1(1)", -1004);
        fault("y1(1=)", -1005);
        fault("y1(1=1=1)", -1006);
        fault("y1(1<=1)", -1005);
        fault("y1(1=1&)", -1007);
        fault("y1(1=1||1=1)", -1007);
        fault("y1(1=1!)", -1006);
        fault("y1(!)", -1004);
        fault("y1((1=1)", -1008);
        fault("y1((1=1)=1)", -1008);
        fault("y1((1)=1)", -1005);
        fault("y1(1=1))", -1007);
        fault("y1(1=1);;z1(1=1)", -1008);
        fault(";y1(1=1)", -1000);
        fault("y1(1=1" + (char) 233 + ")", -1006);
        fault("y1(1=1);a1(1=1)", -1008);
    }

    private static void faultsOfNumber() {
        fault("y99999(1=1)", 1);
        fault("y00000(1=1)", 1);
        fault("y000000(1=1)", -2006);
        fault("y1(123456=1)", -2008);
        fault("y12345f(1=1)", -1006);
        fault("y1234567(1=1)", -2006);
    }

    private static void faultsOfClauses() {
        String fourteen = "y1(1=1);".repeat(14);
        fault(fourteen.substring(0, 111), 14);
        fault(fourteen, -1112);
        fault(fourteen + "y1(1=1)", -4112);
        fault(fourteen + "z", -4112);
        fault(fourteen + "a1(1=1)", -1112);
        fault(fourteen + "y1(1=1);y", -4112);
    }

    private static void faultsOfDepth() {
        fault("y[[[[[[1]]]]]](1=1)", 1);
        fault("y[[[[[[[1]]]]]]](1=1)", -5007);
        fault("y1((((((1=1))))))", 1);
        fault("y1(((((((1=1)))))))", -5008);
        fault("y1(!!!!!1=1)", 1);
        fault("y1(!!!!!!1=1)", -5008);
        fault("y1(!!!!!1=1&!!!!!1=1|!(!(!1=1)))", 1);
        fault("y1(!!!!!(1=1))", -5008);
        fault("y1(!!!!![1]=1)", -5008);
        fault("y1(!!!!1=[1])", 1);
        fault("y1(!!!!1=[[1]])", -5010);
        fault("y1(([[[[1]]]]=1&1=[[[[1]]]]))", 1);
        fault("y1(([[[[[1]]]]]=1))", -5008);
        fault("y[[[[[[1[", -1008);
        fault("y[[[[[[!", -1007);
        fault("y1((((((1=1(", -1011);
        NailStain x = new NailStain();
        DUES.due("a fault in the depth", Dues.rule(x, "y1(((((("), -1008);
        DUES.due("nothing is open then", Dues.rule(x, "y[[[[[[1]]]]]]((((((1=1))))))"), 1);
    }

    /** What the rule makes of an E, at station 2 of 5, strake 1 of 3, side 1. */
    private static void value(String e, int want) {
        NailStain x = new NailStain();
        DUES.due(e, Dues.rule(x, "y" + e + "(1=1)"), 1);
        x.build(5, 3);
        DUES.due("y of " + e, x.rivet(2, 1, 1, 0), want);
    }

    private static void values() {
        value("1+2*3", 7);
        value("10-2-3", 5);
        value("100/7/2", 7);
        value("100-7%4*2", 94);
        value("2*[3+4]", 14);
        value("0-7/2", -3);
        value("[0-7]/2", -3);
        value("[0-7]%3", -1);
        value("7%[0-3]", 1);
        value("00012", 12);
        value("3000", 3000);
        value("3001", 3000);
        value("0-3001", -3000);
        value("99999*99999", 3000);
        value("99999*21476", -3000);
        value("65536*32768/[0-1]", -3000);
        value("65536*32768%[0-1]", 0);
        value("65536*65536+5", 5);
    }

    private static void letters() {
        value("f", 2);
        value("s", 1);
        value("d", 1);
        value("n", 5);
        value("c", 2);
        value("k", 3);
        value("y+z+m+x+t+v+w", 0);
        NailStain x = new NailStain();
        Dues.rule(x, "yc(1=1);zf*100+s*10+d(1=1)");
        x.build(4, 2);
        DUES.due("c at an end", x.rivet(0, 0, 0, 0), 0);
        DUES.due("c at station 1 of 4", x.rivet(1, 0, 0, 0), 1);
        DUES.due("c at station 2 of 4", x.rivet(2, 0, 0, 0), 1);
        DUES.due("c at the other end", x.rivet(3, 1, 1, 0), 0);
        DUES.due("z by f, s and d", x.rivet(3, 1, 1, 1), 311);
        DUES.due("t in the sand", Dues.sand(x, "a7+t+v+w(1=1);by+z*10+m*100(1=1)"), 2);
        x.lies(1, 0, 0, 3, 4);
        x.mound(1, 2);
        x.bury(1);
        DUES.due("t, v, w are 0 in the sand", x.rivet(1, 0, 0, 0), 10);
        DUES.due("y, z, m in the sand", x.rivet(1, 0, 0, 1), 4 + 3 + 40 + 200);
    }

    private static void refusals() {
        value("5/0", 0);
        value("5%0", 0);
        value("9+[5/0]", 0);
        value("9+0*[5%[f-2]]", 0);
        holds("1/0=0", false);
        holds("!1/0=0", false);
        holds("!(1/0=0)", false);
        holds("1/0=0|1=1", false);
        holds("1=1|1/0=0", true);
        holds("1=1&1/0=0", false);
        holds("1=2&1/0=0", false);
        holds("!(1=2&1/0=0)", true);
        holds("(1=1|1%0=0)&2=2", true);
        holds("1=2&1/0=0|1=1", true);
        holds("!(1=1|1/0=0)", false);
        NailStain x = new NailStain();
        Dues.rule(x, "y1(1/0=0);y2(1=1);z5/0(1=1);z3(1=1)");
        x.build(3, 1);
        DUES.due("the next clause, where a C is refused", x.rivet(0, 0, 0, 0), 2);
        DUES.due("0, where an E is refused", x.rivet(0, 0, 0, 1), 0);
    }

    private static void holds(String c, boolean want) {
        NailStain x = new NailStain();
        DUES.due(c, Dues.rule(x, "y1(" + c + ")"), 1);
        x.build(5, 3);
        DUES.due("does it hold: " + c, x.rivet(2, 1, 1, 0), want ? 1 : 0);
    }

    private static void conditions() {
        holds("1<2", true);
        holds("2<2", false);
        holds("2>1", true);
        holds("2>2", false);
        holds("f=2&s=1&d=1", true);
        holds("f=2&s=1&d=0", false);
        holds("f=2&s=0&d=1", false);
        holds("f=3|s=3|d=1", true);
        holds("f=3|s=3|d=3", false);
        holds("1=1|1=1&1=2", true);
        holds("(1=1|1=1)&1=2", false);
        holds("1=2&1=1|1=1", true);
        holds("1=2&(1=1|1=1)", false);
        holds("!1=2", true);
        holds("!!1=2", false);
        holds("!1=2&1=2", false);
        holds("!(1=2&1=2)", true);
        holds("!1=1|1=1", true);
        holds("!(1=1|1=1)", false);
        holds("1+1=2&2*2>3", true);
    }
}
