import java.math.BigInteger;

/** Promise 23 with the parts 1 to 3 of the description: what formulas tell. */
public final class ValuesTest {
    private static final Sheetengine SHEETS = new Sheetengine();

    public static void main(String[] args) {
        places();
        prepare();
        numbers();
        order();
        texts();
        comparing();
        empties();
        faults();
        choosing();
        areas();
        looking();
        counting();
        names();
        longNumbers();
        exactSums();
        rings();
        Check.end();
    }

    private static void is(String formula, String due) {
        Check.due("value of " + formula, Check.valueOf(SHEETS, formula), due);
    }

    private static void places() {
        Sheetengine x = new Sheetengine();
        Check.badArgument("value(-1)", () -> x.value(-1));
        Check.badArgument("value(480)", () -> x.value(480));
        Check.badArgument("value(least)", () -> x.value(Integer.MIN_VALUE));
        x.number(479, -6, 4);
        Check.due("value(479)", x.value(479), "-3/2");
        x.text(479, 10);
        Check.due("value(479)", x.value(479), "w10");
        x.truth(479, false);
        Check.due("value(479)", x.value(479), "false");
        Check.due("value(478)", x.value(478), "");
    }

    /** a0 2, b0 -1/2, c0 "w1", d0 true, e0 "#zero", f0 and all the rest EMPTY. */
    private static void prepare() {
        SHEETS.number(0, 2, 1);
        SHEETS.number(1, -1, 2);
        SHEETS.text(2, 1);
        SHEETS.truth(3, true);
        Check.enter(SHEETS, "e0", "1/0");
    }

    private static void numbers() {
        is("1+2", "3");
        is("a0+b0", "3/2");
        is("a0-b0", "5/2");
        is("a0*b0", "-1");
        is("a0/b0", "-4");
        is("b0/a0", "-1/4");
        is("b0/b0", "1");
        is("0/5", "0");
        is("-b0", "1/2");
        is("--b0", "-1/2");
        is("-0", "0");
        is("1/3+1/6", "1/2");
        is("1/3-1/3", "0");
        is("9999*9999*9999", "999700029999");
        is("1/0", "#zero");
        is("0/0", "#zero");
        is("1/(b0+1/2)", "#zero");
        is("1+w1", "#kind");
        is("true*2", "#kind");
        is("-w1", "#kind");
        is("-true", "#kind");
        is("w1/0", "#kind");
        is("1-c0", "#kind");
    }

    private static void order() {
        is("1+2*3", "7");
        is("(1+2)*3", "9");
        is("10-4-3", "3");
        is("100/5/2", "10");
        is("2*3/4*5", "15/2");
        is("-2*3", "-6");
        is("2*-3", "-6");
        is("2--3", "5");
        is("1-2+3", "2");
        is("1&2+3&4", "154");
        is("1+2=3", "true");
        is("1&2=12", "false");
        is("1=1=true", "true");
        is("1<2=true", "true");
        is("1<2<=true", "true");
        is("2<1<true", "true");
        is("3<2<1", "#kind");
        is("1#2#3", "true");
        is("-1&2", "-12");
        is("2*(3+4*(5-6))", "-2");
    }

    private static void texts() {
        is("w1", "w1");
        is("w99&w0", "w99w0");
        is("a0&b0", "2-1/2");
        is("d0&c0", "truew1");
        is("a0=2&w1", "false");
        is("(a0=2)&w1", "truew1");
        is("w10&w10&w10&w10&w10&w10&12", "w10w10w10w10w10w1012");
        is("w10&w10&w10&w10&w10&w10&123", "#long");
        is("f0&f0", "");
        is("(f0&f0)&w1", "w1");
        is("f0&1", "1");
        is("(f0)&((f0))&3", "3");
        is("(-f0)&w1", "0w1");
        is("if(true,f0,1)&w1", "0w1");
        is("(f0+0)&w1", "0w1");
        is("1&2&3", "123");
        is("(1&2)+1", "#kind");
        is("f0&f0=f0&f0", "true");
        is("f0&f0=0", "false");
    }

    private static void comparing() {
        is("a0=2", "true");
        is("4/2=a0", "true");
        is("a0=c0", "false");
        is("a0#c0", "true");
        is("w1=c0", "true");
        is("2&f0=2", "false");
        is("true=true", "true");
        is("true#false", "true");
        is("true=1", "false");
        is("1/3<1/2", "true");
        is("1/2<1/3", "false");
        is("1/2<1/2", "false");
        is("1/2<=1/2", "true");
        is("-1/2<1/3", "true");
        is("-1/2<-1/3", "true");
        is("0<=-1/3", "false");
        is("w1<w2", "true");
        is("w10<w2", "true");
        is("w1<w10", "true");
        is("w10<w1", "false");
        is("w1<=w1", "true");
        is("w1<w1", "false");
        is("(1/2&f0)<(1&f0)", "false");
        is("(1/2&f0)<(10&f0)", "true");
        is("(-1&f0)<(1/2&f0)", "true");
        is("(true&f0)<w0", "true");
        is("false<true", "true");
        is("true<false", "false");
        is("true<=true", "true");
        is("1<w1", "#kind");
        is("w1<=true", "#kind");
        is("true<1", "#kind");
    }

    private static void empties() {
        is("f0", "0");
        is("(f0)", "0");
        is("1:h29", "0");
        is("f0+1", "1");
        is("f0=0", "true");
        is("f0=g0", "true");
        is("f0#0", "false");
        is("f0<1", "true");
        is("f0<w1", "#kind");
        is("1/f0", "#zero");
        is("if(f0,1,2)", "#kind");
        is("not(f0)", "#kind");
        is("isfault(f0)", "false");
        is("if(false,1,f0)", "0");
        Check.due("a formula is no empty place", SHEETS.ofPlace(Check.at("h20"), 0), 1);
    }

    private static void faults() {
        is("e0", "#zero");
        is("e0+w1", "#zero");
        is("w1+e0", "#zero");
        is("(1+w1)+e0", "#kind");
        is("e0+(1+w1)", "#zero");
        is("e0&w1", "#zero");
        is("w1&e0", "#zero");
        is("e0=e0", "#zero");
        is("e0#1", "#zero");
        is("1<e0", "#zero");
        is("-e0", "#zero");
        is("0*e0", "#zero");
        is("(0+w1)/0", "#kind");
        is("not(e0)", "#zero");
        is("isfault(e0)", "true");
        is("isfault(1+w1)", "true");
        is("isfault(w1)", "false");
        is("isfault(isfault(e0))", "false");
    }

    private static void choosing() {
        is("if(true,1,e0)", "1");
        is("if(false,e0,w2)", "w2");
        is("if(a0=2,d0,1)", "true");
        is("if(true,e0,1)", "#zero");
        is("if(e0,1,2)", "#zero");
        is("if(1,1,2)", "#kind");
        is("if(w1,e0,2)", "#kind");
        is("not(true)", "false");
        is("not(1<0)", "true");
        is("not(0)", "#kind");
        is("not(w1)", "#kind");
        is("if(not(true),1,if(true,2,3))+1", "3");
    }

    private static void areas() {
        is("sum(a0..d0)", "3/2");
        is("count(a0..d0)", "2");
        is("least(a0..d0)", "-1/2");
        is("most(a0..d0)", "2");
        is("sum(f0..g3)", "0");
        is("count(f0..g3)", "0");
        is("least(f0..g3)", "#none");
        is("most(c0..d0)", "#none");
        is("sum(a0..e0)", "#zero");
        is("least(a0..e0)", "#zero");
        is("most(d0..f1)", "#zero");
        is("count(a0..e0)", "2");
        is("sum(a0)", "2");
        is("sum(c0)", "0");
        is("least(b0)", "-1/2");
        is("count(e0)", "0");
        Check.enter(SHEETS, "d1", "1+w1");
        is("sum(d0..e1)", "#zero");
        is("sum(a1..e1)", "#kind");
        is("sum(d0..d1)", "#kind");
        is("sum(a0..b0)/count(a0..b0)", "3/4");
        SHEETS.number(Check.at("1:a5"), 100, 1);
        is("sum(1:a0..h9)", "100");
        is("sum(a0..h9)", "#zero");
        SHEETS.clear(Check.at("d1"));
        SHEETS.number(Check.at("a9"), 4, 1);
        is("sum(a1..a9)", "4");
        is("most(a9..a0)", "4");
        is("sum(b1..a9)", "4");
    }

    private static void looking() {
        SHEETS.text(Check.at("a10"), 3);
        SHEETS.number(Check.at("b10"), 30, 1);
        SHEETS.number(Check.at("a11"), 2, 4);
        SHEETS.text(Check.at("c11"), 11);
        SHEETS.number(Check.at("a12"), 1, 2);
        SHEETS.number(Check.at("b12"), 32, 1);
        Check.enter(SHEETS, "a13", "1/0");
        Check.enter(SHEETS, "b13", "1+w1");
        SHEETS.number(Check.at("a14"), 0, 1);
        SHEETS.number(Check.at("b14"), 34, 1);
        SHEETS.truth(Check.at("a15"), true);
        Check.enter(SHEETS, "c15", "1/0");
        is("look(w3,a10..c15,2)", "30");
        is("look(w3,a10..c15,1)", "w3");
        is("look(w3,a10..c15,3)", "0");
        is("look(w3,a10..c15,3)&w1", "0w1");
        is("look(1/2,a10..c15,3)", "w11");
        is("look(1/2,a10..c15,2)", "0");
        is("look(0,a10..c15,2)", "34");
        is("look(f0,a10..c15,2)", "34");
        is("look(f0,f10..g15,2)", "#none");
        is("look(true,a10..c15,3)", "#zero");
        is("look(true,a10..c15,2)", "0");
        is("look(w4,a10..c15,2)", "#none");
        is("look(30,a10..c15,2)", "#none");
        is("look(w3,a10..c15,0)", "#place");
        is("look(w3,a10..c15,4)", "#place");
        is("look(w3,a10..c15,-1)", "#place");
        is("look(w3,a10..c15,3/2)", "#place");
        is("look(w3,a10..c15,w1)", "#place");
        is("look(w3,a10..c15,true)", "#place");
        is("look(w3,a10..c15,f0)", "#place");
        is("look(w4,a10..c15,9)", "#place");
        is("look(w3,a10,1)", "w3");
        is("look(w3,a10,2)", "#place");
        is("look(e0,n0,1/0)", "#zero");
        is("look(1+w1,n0,1/0)", "#kind");
        is("look(1,n0,1+w1)", "#name");
        is("look(1,a10..c15,1+w1)", "#kind");
        is("look(w3,a10..c15,16*8192*8192+1)", "#place");
        is("look(w3,a10..c15,1/(16*8192*8192+1))", "#place");
        is("look(9999*9999*9999*9999,a10..c15,9999*9999*9999)", "#place");
    }

    private static void counting() {
        is("countif(a10..a15,1/2)", "2");
        is("countif(a10..b15,w3)", "1");
        is("countif(a10..b15,true)", "1");
        is("countif(a10..b15,0)", "1");
        is("countif(a10..b15,f0)", "1");
        is("countif(f10..g15,0)", "0");
        is("countif(a10..b15,1/0)", "#zero");
        is("countif(a10..b15,1+w1)", "#kind");
        is("countif(n0,1/0)", "#name");
        is("countif(a10,w3)", "1");
        is("countif(a10..b15,(1/0)=1)", "#zero");
        is("countif(a10..c15,99)", "0");
    }

    private static void names() {
        is("sum(n5)", "#name");
        is("count(n5)", "#name");
        is("least(n5)+most(n5)", "#name");
        is("isfault(count(n5))", "true");
        SHEETS.name(5, Check.at("a12"), Check.at("a11"));
        is("sum(n5)", "1");
        is("countif(n5,1/2)", "2");
        is("look(1/2,n5,1)", "1/2");
        is("look(1/2,n5,2)", "#place");
        SHEETS.name(5, Check.at("1:a5"), Check.at("1:a5"));
        is("sum(n5)", "100");
        SHEETS.name(5, -1, 0);
        is("sum(n5)", "#name");
        Check.enter(SHEETS, "h0", "count(h5..h7)&h1");
        SHEETS.fill(Check.at("h0"), Check.at("g0"), Check.at("g0"));
        Sheetengine x = new Sheetengine();
        Check.enter(x, "a0", "isfault(sum(b1))");
        Check.enter(x, "b0", "look(1,b1,1)");
        Check.enter(x, "c0", "countif(b1,1/0)");
        Check.enter(x, "d0", "count(b1)");
        x.takeOut(0, false, 1);
        Check.due("gone", x.value(0) + x.value(1) + x.value(2) + x.value(3), "true#gone#gone#gone");
        Check.due("formulas with gone", x.formula(0) + x.formula(1), "=isfault(sum(gone))=look(1,gone,1)");
    }

    private static void longNumbers() {
        Sheetengine x = new Sheetengine();
        x.number(0, 32768, 1);
        Check.enter(x, "a1", "a0*a0");
        Check.enter(x, "a2", "a1*a1");
        Check.due("2 to the 60", x.value(16), BigInteger.TWO.pow(60).toString());
        String most = BigInteger.TWO.pow(120).subtract(BigInteger.ONE).toString();
        Check.due("120 digits", Check.valueOf(x, "(a2-1)*(a2+1)"), most);
        Check.due("120 digits below 0", Check.valueOf(x, "(1-a2)*(a2+1)"), "-" + most);
        Check.due("121 digits", Check.valueOf(x, "a2*a2"), "#long");
        Check.due("121 digits below 0", Check.valueOf(x, "-a2*a2"), "#long");
        Check.due("121 digits on the way", Check.valueOf(x, "a2*a2-1"), "#long");
        Check.due("121 digits by adding", Check.valueOf(x, "(a2-1)*(a2+1)+1"), "#long");
        Check.due("120 digits as a bottom", Check.valueOf(x, "1/(a2-1)/(a2+1)"), "1/" + most);
        Check.due("121 digits as a bottom", Check.valueOf(x, "1/a2/a2"), "#long");
        Check.due("lowest terms", Check.valueOf(x, "(a2-1)*(a2+1)/(a2-1)"), BigInteger.TWO.pow(60).add(BigInteger.ONE).toString());
        Check.due("no long text", Check.valueOf(x, "a2&f9"), BigInteger.TWO.pow(60).toString());
        Check.due("long text", Check.valueOf(x, "a2*10&f9&0"), "#long");
        Check.due("long is a fault", Check.valueOf(x, "isfault(a2*a2)"), "true");
        Check.due("long is not like itself", Check.valueOf(x, "a2*a2=a2*a2"), "#long");
        Check.due("compared exactly", Check.valueOf(x, "(a2-1)/a2<a2/(a2+1)"), "true");
        Check.due("compared exactly", Check.valueOf(x, "a2/(a2+1)<=(a2-1)/a2"), "false");
    }

    /** A sum may be long on the way, and the bottoms of 50 NUMBERS come to some 6000 digits. */
    private static void exactSums() {
        Sheetengine x = new Sheetengine();
        x.number(0, 32768, 1);
        Check.enter(x, "a1", "a0*a0");
        Check.enter(x, "a2", "a1*a1");
        Check.enter(x, "b0", "(a2-1)*(a2+1)");
        Check.enter(x, "b1", "(a2-1)*(a2+1)");
        Check.enter(x, "b2", "-(a2-1)*(a2+1)");
        Check.due("long on the way only", Check.valueOf(x, "sum(b0..b2)"), x.value(1));
        Check.due("long at the end", Check.valueOf(x, "sum(b0..b1)"), "#long");
        Check.due("long by adding one by one", Check.valueOf(x, "b0+b1+b2"), "#long");
        for (int k = 0; k < 24; k++) {
            int part = 2 * (k % 12);
            Check.enter(x, "d" + k, (k < 12 ? "" : "-") + "1/($a$2-" + (part + 9) + ")/($a$2+" + (part + 1) + ")");
            Check.enter(x, "e" + k, (k % 2 == 0 ? "-" : "") + (k + 5) + "/($a$2+" + (part + 8) + ")");
        }
        Check.due("they cancel", Check.valueOf(x, "sum(d0..d23)"), "0");
        Check.due("they do not come to a short one", Check.valueOf(x, "sum(d0..e23)"), "#long");
        x.number(Check.at("d12"), 4, 7);
        Check.due("but one", Check.valueOf(x, "sum(d0..d23)"), "#long");
        Check.enter(x, "d0", "3/7");
        Check.due("all but two cancel", Check.valueOf(x, "sum(d0..d23)"), "1");
    }

    private static void rings() {
        Sheetengine x = new Sheetengine();
        Check.enter(x, "a0", "a0");
        Check.due("a ring of one", x.value(0), "#ring");
        Check.enter(x, "a0", "b0+1");
        Check.enter(x, "b0", "if(false,a0,5)");
        Check.due("a ring of two, whether looked at or not", x.value(0) + x.value(1), "#ring#ring");
        Check.enter(x, "c0", "isfault(a0)");
        Check.due("what hangs on a ring", x.value(2), "#ring");
        Check.enter(x, "d0", "c0&w1");
        Check.due("what hangs on that", x.value(3), "#ring");
        Check.enter(x, "e0", "1+1");
        Check.due("what does not", x.value(4), "2");
        Check.enter(x, "b0", "5");
        Check.due("the ring is broken", x.value(0) + x.value(1) + x.value(2) + x.value(3), "65falsefalsew1");
        Check.due("all of it is reckoned", x.reckoned(), "0 1 2 3");
        Check.enter(x, "1:a0", "sum(a1..a3)");
        Check.enter(x, "a2", "count(1:a0..b0)");
        Check.due("over both sheets", x.value(16) + x.value(240), "#ring#ring");
        Check.due("no more is reckoned", x.reckoned(), "");
        Check.enter(x, "a2", "count(1:b0..b5)");
        Check.due("broken", x.value(16) + x.value(240), "00");
    }
}
