/** Promises 12 to 14 and what the Terms say of TEXTS: each sentence that names an edge. */
public final class TextsEdgesTest {
    private static final String FIFTY = "1+1+1+1+1+1+1+1+1+1+1+1+1+1+1+1+1+1+1+1+1+1+1+1+10";

    public static void main(String[] args) {
        feed();
        theTapeIsFull();
        text();
        numbers();
        openOnes();
        signsThatBind();
        intsThatWrap();
        dividing();
        trueOrNot();
        faults();
        faultsOfTheOtherUse();
        heldWithin();
        withoutAText();
        law();
        Due.end("TextsEdgesTest");
    }

    /** A TEXT of USE 0 that is read whole gives so much with 3, 4, 5. */
    private static void worth(String sentence, String text, int want) {
        Edge.edge(sentence + ": " + text, "say'" + text + "' text(0)=1 law(0,3,4,5)=" + want);
    }

    /** The one ahead stays, THE TAPE is empty, no ERROR is told. */
    private static void fault(String sentence, String text, int place) {
        Edge.edge(sentence + ": " + text, "say'm*2' text(0)=1 say'" + text + "' text(0)=" + (-10 - place),
            "law(0,3,4,5)=10 count(6)=0 told(1)=0 told(2)=0 told(3)=0 told(4)=0 told(5)=0");
    }

    private static void feed() {
        Edge.edge("12. n 1 .. 8", Edge.SOME, """
            feed(0,0)=BEYOND feed(0,-1)=BEYOND feed(0,9)=BEYOND feed(0,MIN)=BEYOND feed(0,MAX)=BEYOND count(6)=5 feed(0,1)=6
            feed(0,8)=14 count(6)=14""");
        Edge.edge("12. the n lowest bytes alone", "feed(0x312B38,1)=1 text(0)=1 law(0,0,0,0)=8");
        Edge.edge("12. the lowest first", "feed(0x312D37,3)=3 text(0)=1 law(0,0,0,0)=6");
        Edge.edge("12. all eight", "feed(0x39302B302B302B30,8)=8 text(0)=1 law(0,0,0,0)=9");
        Edge.edge("12. a word below 0: its highest byte is one like the others", "feed(-1,8)=8 text(0)=-10 feed(-208,1)=1 text(0)=1 law(0,0,0,0)=0");
        Edge.edge("12. bytes 0 and 255", "feed(0,1)=1 text(0)=-10 feed(255,1)=1 text(0)=-10 feed(0x62,2)=2 text(0)=-11 feed(0xFF62,2)=2 text(0)=-11");
    }

    private static void theTapeIsFull() {
        Edge.edge("12. FULL: THE TAPE has at most 50 bytes", """
            6*feed(0x6262626262626262,8) count(6)=48 feed(0,3)=FULL feed(0,8)=FULL count(6)=48 feed(0,1)=49 feed(0,2)=FULL feed(0,1)=50
            feed(0,1)=FULL feed(0,8)=FULL count(6)=50""");
        Edge.edge("12. FULL: 42 and 8 are 50", "5*feed(0,8) feed(0,2)=42 feed(0,8)=50 feed(0,1)=FULL");
        Edge.edge("12. FULL: 43 and 8 are too many", "5*feed(0,8) feed(0,3)=43 feed(0,8)=FULL feed(0,7)=50");
        Edge.edge("12. BEYOND. FULL.", "6*feed(0,8) feed(0,2)=50 feed(0,0)=BEYOND feed(0,9)=BEYOND feed(0,-1)=BEYOND feed(0,1)=FULL");
        Edge.edge("12. THE TAPE is empty behind text(), and takes 50 again", "6*feed(0,8) feed(0,2)=50 text(0)=-10 count(6)=0 6*feed(0,8) feed(0,2)=50");
    }

    private static void text() {
        Edge.edge("13. USES 0, 1; BEYOND (THE TAPE stays)", Edge.SOME, """
            text(-1)=BEYOND text(2)=BEYOND text(MIN)=BEYOND text(MAX)=BEYOND count(6)=5 text(1)=-12 count(6)=0""");
        Edge.edge("13. BEYOND (THE TAPE stays): what is on it can be read yet", "say'b+1' text(2)=BEYOND count(6)=3 text(0)=1 law(0,6,0,0)=7");
        Edge.edge("13. in place of one ahead", "say'1' text(0)=1 law(0,9,9,9)=1 say'2' text(0)=1 law(0,9,9,9)=2");
        Edge.edge("13. one USE's alone", "say'7' text(0)=1 law(1,0,0,1)=1 law(1,0,0,0)=0 say'0' text(1)=1 law(1,0,0,1)=0 law(0,0,0,0)=7");
        Edge.edge("13. THE TAPE, which is empty then", "say'1' count(6)=1 text(0)=1 count(6)=0 say'2' count(6)=1 text(1)=1 count(6)=0");
        Edge.edge("13. THE TAPE is empty behind a FAULT, too", "say'1+' text(0)=-12 count(6)=0 say'3' text(0)=1 law(0,0,0,0)=3");
        Edge.edge("13. an empty THE TAPE: FAULT 0", "text(0)=-10 text(1)=-10 law(0,1,2,3)=3 law(1,1,2,3)=1 told(1)=0");
        Edge.edge("13. -10 less the FAULT: the one ahead stays", "say'4' text(0)=1 say'5)' text(0)=-11 law(0,0,0,0)=4 text(0)=-10 law(0,0,0,0)=4");
        Edge.edge("13. fifty bytes are read", "say'" + FIFTY + "' count(6)=50 text(0)=1 law(0,0,0,0)=34");
        Edge.edge("13. fifty bytes that end too early: how many there are", "say'" + FIFTY.substring(0, 48) + "1+' count(6)=50 text(0)=-60");
        Edge.edge("13. fifty bytes, the last is at fault", "say'" + FIFTY.substring(0, 48) + "1)' count(6)=50 text(0)=-59");
    }

    private static void numbers() {
        worth("a NUMBER of 1 to 4 digits", "0", 0);
        worth("a NUMBER of 1 to 4 digits", "99", 99);
        worth("a NUMBER of 1 to 4 digits", "9999/101", 99);
        worth("a NUMBER of 1 to 4 digits", "0007", 7);
        worth("a NUMBER of 1 to 4 digits", "0000", 0);
        worth("a NUMBER of 1 to 4 digits", "100-99", 1);
        fault("a NUMBER of 1 to 4 digits", "12345", 4);
        fault("a NUMBER of 1 to 4 digits", "00000", 4);
        fault("a NUMBER of 1 to 4 digits", "b+12345", 6);
        fault("a NUMBER of 1 to 4 digits", "(1234)5", 6);
        fault("a NUMBER of 1 to 4 digits", "1234b", 4);
        fault("a NUMBER of 1 to 4 digits", "12b", 2);
        fault("a NUMBER of 1 to 4 digits", "b1", 1);
        fault("a NUMBER of 1 to 4 digits", "1:2", 1);
    }

    private static void openOnes() {
        worth("at most 5 of ! and ( are open at once", "(((((b)))))", 3);
        fault("at most 5 of ! and ( are open at once", "((((((b))))))", 5);
        worth("at most 5 of ! and ( are open at once", "!!!!!b", 0);
        fault("at most 5 of ! and ( are open at once", "!!!!!!b", 5);
        worth("at most 5 of ! and ( are open at once", "!(!(!b))", 0);
        worth("at most 5 of ! and ( are open at once", "(!(!(b)))", 1);
        fault("at most 5 of ! and ( are open at once", "!(!(!(b)))", 5);
        fault("at most 5 of ! and ( are open at once", "(!(!(!b)))", 5);
        fault("at most 5 of ! and ( are open at once", "(((((!b)))))", 5);
        fault("at most 5 of ! and ( are open at once", "!!!!!(b)", 5);
        worth("a ) closes: it is open no more", "(((((b)))))+(((((b)))))", 6);
        worth("a ) closes: it is open no more", "(b)+(b)+(b)+(b)+(b)+(b)+(b)", 21);
        worth("a ) closes: it is open no more", "((((b)+(b))))", 6);
        fault("a ) closes what is open, not what is at fault ahead of it", "((((((b)", 5);
        worth("a ! is open up to the end of its Q", "!b+!b+!b+!b+!b+!b+7", 7);
        worth("a ! is open up to the end of its Q", "!!!!!b+!!!!!b", 0);
        worth("a ! is open up to the end of its Q", "(!!!!b+(b))", 4);
        worth("a ! is open up to the end of its Q", "!(b)+((((b))))", 3);
        worth("a ! is open up to the end of its Q", "!b+(((((h)))))", 4);
        fault("a ! is open up to the end of its Q", "!((((b+(h)))))", 7);
        worth("a ! is open up to the end of its Q", "!((((b+h))))", 0);
    }

    private static void signsThatBind() {
        worth("T: A { | A }. A: B { & B }", "b|h&0", 1);
        worth("T: A { | A }. A: B { & B }", "0&h|m", 1);
        worth("T: A { | A }. A: B { & B }", "0|0|0", 0);
        worth("T: A { | A }. A: B { & B }", "1&1&0", 0);
        worth("B: S, or S < S, S = S, S > S", "1+1<3", 1);
        worth("B: S, or S < S, S = S, S > S", "3>1+1", 1);
        worth("B: S, or S < S, S = S, S > S", "2=1+1", 1);
        worth("B: S, or S < S, S = S, S > S", "1<2&2<1", 0);
        worth("B: S, or S < S, S = S, S > S", "(2<3)<2", 1);
        fault("B: one sign at most", "1<2<3", 3);
        fault("B: one sign at most", "1=1=1", 3);
        fault("B: one sign at most", "1>2+1>3", 5);
        fault("B: one sign at most", "(1<2>3)", 4);
        worth("S: P { + P, - P }, from the left", "20-9-3", 8);
        worth("S: P { + P, - P }, from the left", "20-9+3", 14);
        worth("S: P { + P, - P }", "2+3*4", 14);
        worth("S: P { + P, - P }", "20-3*4", 8);
        worth("P: Q { * Q, / Q, % Q }, from the left", "80/4/2", 10);
        worth("P: Q { * Q, / Q, % Q }, from the left", "80/4*2", 40);
        worth("P: Q { * Q, / Q, % Q }, from the left", "23%9*2", 10);
        worth("P: Q { * Q, / Q, % Q }, from the left", "2*23%9", 1);
        worth("Q: ! Q", "!0*3", 3);
        worth("Q: ! Q", "!(0*3)+1", 2);
        worth("Q: ( T )", "(1|0)+(0&1)+(2<3)", 2);
        fault("Q: no sign ahead", "-1", 0);
        fault("Q: no sign ahead", "+1", 0);
        fault("Q: no sign ahead", "3--1", 2);
        fault("Q: ( T )", "()", 1);
    }

    private static void intsThatWrap() {
        Edge.edge("ints that wrap, by +", "say'b+h<0' text(0)=1 law(0,MAX,1,0)=1 law(0,MAX,0,0)=0 say'b+h=m' text(0)=1 law(0,MAX,1,MIN)=1");
        Edge.edge("ints that wrap, by -", "say'b-h>0' text(0)=1 law(0,MIN,1,0)=1 law(0,MIN,0,0)=0 say'b-h=m' text(0)=1 law(0,MIN,1,MAX)=1");
        Edge.edge("ints that wrap, by *", "say'b*h=m' text(0)=1 law(0,65536,65536,0)=1 law(0,65536,32768,MIN)=1 law(0,MIN,-1,MIN)=1");
        Edge.edge("ints that wrap, by /", "say'b/h=m' text(0)=1 law(0,MIN,-1,MIN)=1 law(0,MIN,1,MIN)=1 law(0,MAX,-1,-2147483647)=1");
        Edge.edge("ints that wrap: NUMBERS", "say'9999*9999*9999<0' text(0)=1 law(0,0,0,0)=1 say'9999*9999>0' text(0)=1 law(0,0,0,0)=1");
        Edge.edge("ints that wrap: without a TEXT", "law(0,MAX,1,0)=0 law(0,MIN,MIN,0)=0 law(0,MIN,-1,0)=99");
    }

    private static void dividing() {
        Edge.edge("/ cut", "say'b/h+9' text(0)=1 law(0,7,2,0)=12 law(0,-7,2,0)=6 law(0,7,-2,0)=6 law(0,-7,-2,0)=12 law(0,1,2,0)=9 law(0,-1,2,0)=9");
        Edge.edge("% the rest that it leaves", "say'b%h+9' text(0)=1 law(0,7,2,0)=10 law(0,-7,2,0)=8 law(0,7,-2,0)=10 law(0,-7,-2,0)=8 law(0,6,2,0)=9 law(0,MIN,-1,0)=9");
        Edge.edge("/ by 0 is 0", "say'b/h+9' text(0)=1 law(0,7,0,0)=9 law(0,0,0,0)=9 law(0,MIN,0,0)=9 law(0,MAX,0,0)=9");
        Edge.edge("% by 0 is 0", "say'b%h+9' text(0)=1 law(0,7,0,0)=9 law(0,0,0,0)=9 law(0,MIN,0,0)=9 law(0,MAX,0,0)=9");
        Edge.edge("by 0, amid", "say'1|1/0|b%0' text(0)=1 law(0,0,0,0)=1 say'7+5/(b-b)*2' text(0)=1 law(0,3,0,0)=7");
    }

    private static void trueOrNot() {
        Edge.edge("| is 1 or 0, what is not 0 being true", "say'(b|h)+5' text(0)=1 law(0,0,0,0)=5 law(0,2,0,0)=6 law(0,0,4,0)=6 law(0,2,4,0)=6 law(0,-1,0,0)=6 law(0,0,MIN,0)=6");
        Edge.edge("& is 1 or 0, what is not 0 being true", "say'(b&h)+5' text(0)=1 law(0,0,0,0)=5 law(0,2,0,0)=5 law(0,0,4,0)=5 law(0,2,4,0)=6 law(0,-1,MIN,0)=6");
        Edge.edge("! is 1 or 0, what is not 0 being true", "say'!b+5' text(0)=1 law(0,0,0,0)=6 law(0,1,0,0)=5 law(0,2,0,0)=5 law(0,-1,0,0)=5 law(0,MIN,0,0)=5");
        Edge.edge("< is 1 or 0", "say'(b<h)+5' text(0)=1 law(0,3,4,0)=6 law(0,4,4,0)=5 law(0,5,4,0)=5 law(0,MIN,MAX,0)=6 law(0,MAX,MIN,0)=5");
        Edge.edge("= is 1 or 0", "say'(b=h)+5' text(0)=1 law(0,3,4,0)=5 law(0,4,4,0)=6 law(0,5,4,0)=5 law(0,MIN,MIN,0)=6");
        Edge.edge("> is 1 or 0", "say'(b>h)+5' text(0)=1 law(0,3,4,0)=5 law(0,4,4,0)=5 law(0,5,4,0)=6 law(0,MIN,MAX,0)=5 law(0,MAX,MIN,0)=6");
    }

    private static void faults() {
        fault("FAULT: the place of the first byte with which no TEXT goes on", ")", 0);
        fault("FAULT: the place of the first byte with which no TEXT goes on", "*", 0);
        fault("FAULT: the place of the first byte with which no TEXT goes on", "b+*h", 2);
        fault("FAULT: the place of the first byte with which no TEXT goes on", "bh", 1);
        fault("FAULT: the place of the first byte with which no TEXT goes on", "b)", 1);
        fault("FAULT: the place of the first byte with which no TEXT goes on", "(b))", 3);
        fault("FAULT: the place of the first byte with which no TEXT goes on", "(b)h", 3);
        fault("FAULT: the place of the first byte with which no TEXT goes on", "(b)(h)", 3);
        fault("FAULT: the place of the first byte with which no TEXT goes on", "b!", 1);
        fault("FAULT: the place of the first byte with which no TEXT goes on", "b&&h", 2);
        fault("FAULT: the place of the first byte with which no TEXT goes on", "b||h", 2);
        fault("FAULT: the place of the first byte with which no TEXT goes on", "b<=h", 2);
        fault("FAULT: the place of the first byte with which no TEXT goes on", "b+)))", 2);
        fault("FAULT: the first of two", "b+*+*", 2);
        fault("FAULT: the first, though it ends too early, too", "(b+*", 3);
        fault("FAULT: how many there are, if it ends too early", "b+", 2);
        fault("FAULT: how many there are, if it ends too early", "b<", 2);
        fault("FAULT: how many there are, if it ends too early", "b|", 2);
        fault("FAULT: how many there are, if it ends too early", "b&", 2);
        fault("FAULT: how many there are, if it ends too early", "b*", 2);
        fault("FAULT: how many there are, if it ends too early", "!", 1);
        fault("FAULT: how many there are, if it ends too early", "(", 1);
        fault("FAULT: how many there are, if it ends too early", "(b", 2);
        fault("FAULT: how many there are, if it ends too early", "(((b)+1)", 8);
        fault("FAULT: how many there are, if it ends too early", "!!!!!", 5);
        fault("FAULT: how many there are, if it ends too early", "(((((", 5);
        fault("FAULT: one more of them is at fault first", "((((((", 5);
        Edge.edge("FAULT: how many there are, if it ends too early: none", "say'4' text(0)=1 text(0)=-10 law(0,0,0,0)=4 told(1)=0");
        Edge.edge("no blanks", "feed(0x2062,2)=2 text(0)=-11 feed(0x6220,2)=2 text(0)=-10 feed(0x20,1)=1 text(0)=-10 feed(0x0A62,2)=2 text(0)=-11");
    }

    private static void faultsOfTheOtherUse() {
        Edge.edge("NAMES of USE 0 are b, h, m", """
            say'b' text(0)=1 say'h' text(0)=1 say'm' text(0)=1 say'l' text(0)=-10 say'r' text(0)=-10 say'B' text(0)=-10 say'a' text(0)=-10
            say'b+l' text(0)=-12 say'b+r' text(0)=-12""");
        Edge.edge("NAMES of USE 1 are l, r, h", """
            say'l' text(1)=1 say'r' text(1)=1 say'h' text(1)=1 say'b' text(1)=-10 say'm' text(1)=-10 say'L' text(1)=-10
            say'l+b' text(1)=-12 say'l+m' text(1)=-12""");
        Edge.edge("NAMES in order as a, b, c, USE 0: b, h, m", """
            say'b' text(0)=1 law(0,7,8,9)=7 say'h' text(0)=1 law(0,7,8,9)=8 say'm' text(0)=1 law(0,7,8,9)=9""");
        Edge.edge("NAMES in order as a, b, c, USE 1: l, r, h", """
            say'l' text(1)=1 law(1,1,0,0)=1 law(1,0,1,1)=0 say'r' text(1)=1 law(1,0,1,0)=1 law(1,1,0,1)=0
            say'h' text(1)=1 law(1,0,0,1)=1 law(1,1,1,0)=0""");
        Edge.edge("FAULT of USE 1: the one ahead stays", "say'l=2' text(1)=1 say'l=b' text(1)=-12 law(1,2,0,0)=1 law(1,3,0,1)=0 count(6)=0");
    }

    private static void heldWithin() {
        Edge.edge("SHOWN is held within 0 to 99", "say'b' text(0)=1 law(0,0,0,0)=0 law(0,-1,0,0)=0 law(0,MIN,0,0)=0 law(0,99,0,0)=99 law(0,100,0,0)=99 law(0,98,0,0)=98 law(0,MAX,0,0)=99");
        Edge.edge("SHOWN is held at its end alone", "say'b-h' text(0)=1 law(0,120,30,0)=90 say'(0-b)*(0-b)' text(0)=1 law(0,5,0,0)=25");
        Edge.edge("RIGHT is held within 0 to 1", "say'l' text(1)=1 law(1,0,0,0)=0 law(1,-1,0,0)=0 law(1,MIN,0,0)=0 law(1,1,0,0)=1 law(1,2,0,0)=1 law(1,MAX,0,0)=1");
        Edge.edge("RIGHT is held at its end alone", "say'l-r' text(1)=1 law(1,5,4,0)=1 law(1,5,5,0)=0 law(1,4,5,0)=0");
    }

    private static void withoutAText() {
        Edge.edge("SHOWN without a TEXT b+h", "law(0,3,4,9)=7 law(0,0,0,9)=0 law(0,90,9,0)=99 law(0,90,10,0)=99 law(0,-1,0,0)=0 law(0,5,-2,0)=3");
        Edge.edge("RIGHT without a TEXT h%2", "law(1,9,9,0)=0 law(1,9,9,1)=1 law(1,9,9,2)=0 law(1,0,0,11)=1 law(1,1,1,-1)=0 law(1,1,1,MIN)=0 law(1,1,1,MAX)=1");
    }

    private static void law() {
        Edge.edge("14. USES 0, 1", Edge.SOME, "law(-1,0,0,0)=BEYOND law(2,0,0,0)=BEYOND law(MIN,0,0,0)=BEYOND law(MAX,0,0,0)=BEYOND law(0,1,2,3)=4 law(1,1,2,3)=1");
        Edge.edge("14. a, b, c: any numbers", Edge.SOME, "law(0,MIN,MIN,MIN)=0 law(0,MAX,MAX,MAX)=99 law(1,MIN,MAX,0)=1 law(1,MAX,MIN,0)=0");
    }
}
