/** Promises 12 to 14: the tape, texts, laws. */
public final class TextsTest {
    public static void main(String[] args) {
        feed();
        texts();
        faults();
        names();
        laws();
        Due.end("TextsTest");
    }

    private static void feed() {
        GlassEyes x = new GlassEyes();
        int[] wrong = {0, -1, 9, Integer.MIN_VALUE, Integer.MAX_VALUE};
        for (int n : wrong) {
            Due.refused(x, "feed(0, " + n + ")", Due.BEYOND, () -> x.feed(0, n));
        }
        for (int i = 1; i <= 6; i++) {
            Due.due("feed(.., 8)", x.feed(0x2B2B2B2B2B2B2B62L, 8), 8 * i);
        }
        Due.refused(x, "feed(.., 3) with 48", Due.FULL, () -> x.feed(0, 3));
        Due.refused(x, "feed(.., 8) with 48", Due.FULL, () -> x.feed(0, 8));
        Due.refused(x, "feed(.., 9) with 48", Due.BEYOND, () -> x.feed(0, 9));
        Due.due("feed(.., 2)", x.feed(0, 2), 50);
        Due.refused(x, "feed(.., 1) with 50", Due.FULL, () -> x.feed(0, 1));
        Due.due("count(6)", x.count(6), 50);
        Due.due("text(0)", x.text(0), -12);
        Due.due("count(6)", x.count(6), 0);
        Due.due("the lowest byte first", x.feed(0x312D37L, 3), 3);
        x.text(0);
        Due.due("7-1", x.law(0, 0, 0, 0), 6);
        Due.due("the n lowest alone", x.feed(0x312B38L, 1), 1);
        x.text(0);
        Due.due("8", x.law(0, 0, 0, 0), 8);
        Due.due("eight bytes", x.feed(0x39302B302B302B30L, 8), 8);
        x.text(0);
        Due.due("0+0+0+09", x.law(0, 0, 0, 0), 9);
    }

    private static void worth(String text, int a, int b, int c, int want) {
        GlassEyes x = new GlassEyes();
        Due.due("text " + text, Due.read(x, 0, text), 1);
        Due.due(text + " with " + a + ", " + b + ", " + c, x.law(0, a, b, c), want);
    }

    private static void texts() {
        worth("7", 0, 0, 0, 7);
        worth("0042", 0, 0, 0, 42);
        worth("9999", 0, 0, 0, 99);
        worth("b", 5, 6, 7, 5);
        worth("h", 5, 6, 7, 6);
        worth("m", 5, 6, 7, 7);
        worth("b+h*m", 5, 6, 7, 47);
        worth("(b+h)*m", 5, 6, 7, 77);
        worth("20-9-3", 0, 0, 0, 8);
        worth("80/4/2", 0, 0, 0, 10);
        worth("80/4*2", 0, 0, 0, 40);
        worth("23%9*2", 0, 0, 0, 10);
        worth("2*23%9", 0, 0, 0, 1);
        worth("b/h", 7, 0, 0, 0);
        worth("5+b%h", 7, 0, 0, 5);
        worth("10+b/h", -7, 2, 0, 7);
        worth("10+b%h", -7, 2, 0, 9);
        worth("10+b%h", 7, -2, 0, 11);
        worth("b/h=b", Integer.MIN_VALUE, -1, 0, 1);
        worth("5+b%h", Integer.MIN_VALUE, -1, 0, 5);
        worth("b+h=m", Integer.MAX_VALUE, 1, Integer.MIN_VALUE, 1);
        worth("b-h=m", Integer.MIN_VALUE, 1, Integer.MAX_VALUE, 1);
        worth("b*h=m", 65536, 65536, 0, 1);
        worth("b<h", 3, 4, 0, 1);
        worth("b<h", 4, 4, 0, 0);
        worth("b>h", 4, 3, 0, 1);
        worth("b>h", 4, 4, 0, 0);
        worth("b=h", 4, 4, 0, 1);
        worth("b=h", 4, 3, 0, 0);
        worth("b+1<h-1", 1, 4, 0, 1);
        worth("b&h", 2, 4, 0, 1);
        worth("b&h", 2, 0, 0, 0);
        worth("b&h", 0, 2, 0, 0);
        worth("b|h", 0, 4, 0, 1);
        worth("b|h", 4, 0, 0, 1);
        worth("b|h", 0, 0, 0, 0);
        worth("b|h&m", 1, 1, 0, 1);
        worth("(b|h)&m", 1, 1, 0, 0);
        worth("b=1&h=2|m=3", 0, 2, 3, 1);
        worth("b&h<m", 5, 1, 2, 1);
        worth("5+(b<h)", 4, 3, 0, 5);
        worth("5+(b>h)", 3, 4, 0, 5);
        worth("5+(b=h)", 3, 4, 0, 5);
        worth("5+(b&h)", 3, 0, 0, 5);
        worth("5+(b|h)", 0, 0, 0, 5);
        worth("5+(b|h)", 7, 9, 0, 6);
        worth("5+(b&h)", 7, 8, 0, 6);
        worth("5+b/h", 7, 0, 0, 5);
        worth("5+0*b", 7, 0, 9, 5);
        worth("!b", 5, 0, 0, 0);
        worth("!b", 0, 0, 0, 1);
        worth("!!b", 5, 0, 0, 1);
        worth("!b+3", 0, 0, 0, 4);
        worth("!b*3", 0, 0, 0, 3);
        worth("!(b+3)", 0, 0, 0, 0);
        worth("b", -5, 0, 0, 0);
        worth("b", 99, 0, 0, 99);
        worth("b", 100, 0, 0, 99);
        worth("b", Integer.MAX_VALUE, 0, 0, 99);
        worth("b", Integer.MIN_VALUE, 0, 0, 0);
        worth("!!!!!b", 5, 0, 0, 0);
        worth("(((((b)))))", 5, 0, 0, 5);
        worth("!(!(!b))", 5, 0, 0, 0);
        worth("!b+!b+!b+!b+!b+!b+!b", 0, 0, 0, 7);
        worth("(b)+(b)+(b)+(b)+(b)+(b)", 2, 0, 0, 12);
        worth("((((b))))+((((b))))", 2, 0, 0, 4);
        worth("(b<h)<m", 1, 2, 3, 1);
        worth("1+1+1+1+1+1+1+1+1+1+1+1+1+1+1+1+1+1+1+1+1+1+1+1+10", 0, 0, 0, 34);
        worth("b-(h-(m-(b-(h-(m-1)))))", 1, 2, 3, 1);
        worth("1-(1<(1+(1*(1|(0-1)))))", 1, 2, 3, 0);
    }

    private static void fault(int use, String text, int place) {
        GlassEyes x = new GlassEyes();
        Due.read(x, use, use == 0 ? "b*2" : "l=3");
        int law = x.law(use, 3, 4, 5);
        Due.due("use " + use + ", text " + text, Due.read(x, use, text), -10 - place);
        Due.due("the one ahead stays behind " + text, x.law(use, 3, 4, 5), law);
        Due.due("the tape is empty behind " + text, x.count(6), 0);
        for (int k = 1; k <= 5; k++) {
            Due.due("a FAULT is no ERROR", x.told(k), 0);
        }
    }

    private static void faults() {
        fault(0, "", 0);
        fault(0, "b+", 2);
        fault(0, "b+*", 2);
        fault(0, "+b", 0);
        fault(0, "-b", 0);
        fault(0, "b ", 1);
        fault(0, " b", 0);
        fault(0, "bb", 1);
        fault(0, "b2", 1);
        fault(0, "2b", 1);
        fault(0, "12345", 4);
        fault(0, "b+12345", 6);
        fault(0, "b<h<m", 3);
        fault(0, "b=h>m", 3);
        fault(0, "(b<h=m)", 4);
        fault(0, "b<h+1<m", 5);
        fault(0, "b<", 2);
        fault(0, "b<<", 2);
        fault(0, "b|", 2);
        fault(0, "b&", 2);
        fault(0, "b&&h", 2);
        fault(0, "(b", 2);
        fault(0, "(", 1);
        fault(0, "()", 1);
        fault(0, ")", 0);
        fault(0, "b)", 1);
        fault(0, "(b))", 3);
        fault(0, "(b]", 2);
        fault(0, "!", 1);
        fault(0, "b!", 1);
        fault(0, "!!!!!!b", 5);
        fault(0, "((((((b))))))", 5);
        fault(0, "!(!(!(b)))", 5);
        fault(0, "(((((!b)))))", 5);
        fault(0, "!!!!!(b)", 5);
        fault(0, "!!!!!!", 5);
        fault(0, "!!!!!", 5);
        fault(0, "(b)(b)", 3);
        fault(0, "(b)b", 3);
        fault(0, "b\u0000", 1);
        fault(0, "b" + (char) 255, 1);
        fault(0, "" + (char) 233, 0);
        fault(0, "B", 0);
        fault(0, "b=>h", 2);
        fault(0, "b:h", 1);
        fault(0, "1+1+1+1+1+1+1+1+1+1+1+1+1+1+1+1+1+1+1+1+1+1+1+1+1+", 50);
    }

    private static void names() {
        for (char sign = 0; sign < 256; sign++) {
            String one = "" + sign;
            boolean digit = sign >= '0' && sign <= '9';
            boolean opens = sign == '!' || sign == '(';
            int bad = opens ? -11 : -10;
            GlassEyes x = new GlassEyes();
            Due.due("USE 0 by " + (int) sign, Due.read(x, 0, one), digit || "bhm".contains(one) ? 1 : bad);
            Due.due("USE 1 by " + (int) sign, Due.read(x, 1, one), digit || "lrh".contains(one) ? 1 : bad);
        }
    }

    private static void laws() {
        GlassEyes x = new GlassEyes();
        int[] wrong = {-1, 2, Integer.MIN_VALUE, Integer.MAX_VALUE};
        Due.feedAll(x, "b+");
        for (int use : wrong) {
            Due.refused(x, "text(" + use + ")", Due.BEYOND, () -> x.text(use));
            Due.refused(x, "law(" + use + ", ..)", Due.BEYOND, () -> x.law(use, 0, 0, 0));
        }
        Due.due("the tape stays", x.count(6), 2);
        Due.due("feed(m)", x.feed('m', 1), 3);
        Due.due("without a TEXT, USE 0", x.law(0, 90, 8, 1), 98);
        Due.due("without a TEXT, USE 0, held", x.law(0, 90, 10, 1), 99);
        Due.due("without a TEXT, USE 0, held", x.law(0, -90, 10, 1), 0);
        Due.due("without a TEXT, USE 0, going round", x.law(0, Integer.MAX_VALUE, 1, 1), 0);
        Due.due("without a TEXT, USE 1", x.law(1, 9, 9, 7), 1);
        Due.due("without a TEXT, USE 1", x.law(1, 9, 9, 8), 0);
        Due.due("without a TEXT, USE 1, held", x.law(1, 9, 9, -7), 0);
        Due.due("text(0)", x.text(0), 1);
        Due.due("b+m", x.law(0, 4, 50, 3), 7);
        Due.due("the other USE goes on", x.law(1, 9, 9, 7), 1);
        Due.due("text(1)", Due.read(x, 1, "l*2-r+h"), 1);
        Due.due("l*2-r+h", x.law(1, 2, 4, 1), 1);
        Due.due("l*2-r+h", x.law(1, 2, 4, 0), 0);
        Due.due("l*2-r+h, held", x.law(1, 2, 3, 9), 1);
        Due.due("l*2-r+h, held", x.law(1, 2, 9, 1), 0);
        Due.due("the first USE goes on", x.law(0, 4, 50, 3), 7);
        Due.due("in place of the one ahead", Due.read(x, 0, "h"), 1);
        Due.due("h", x.law(0, 4, 50, 3), 50);
    }
}
