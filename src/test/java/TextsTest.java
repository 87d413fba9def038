/** Promises 14 to 16: the tape, texts and their faults, what a use gives. */
public final class TextsTest {
    private static final Due due = new Due("TextsTest");

    public static void main(String[] args) {
        feed();
        text();
        faults();
        law();
        values();
        due.end();
    }

    private static void feed() {
        RopeBorder x = new RopeBorder();
        due.is("14: feed(0, 0)", x.feed(0, 0), Due.BEYOND);
        due.is("14: feed(0, 9)", x.feed(0, 9), Due.BEYOND);
        due.is("14: feed(0, -1)", x.feed(0, -1), Due.BEYOND);
        due.is("14: feed(.., 1)", x.feed('9', 1), 1);
        // "*100+k  " and so on: the lowest byte first
        due.is("14: feed(.., 8)", x.feed(0x6b2b3030312f3939L, 8), 9);
        due.is("14: count(10)", x.count(10), 9);
        due.is("14: 999/100+k is a text", x.text(0), 1);
        due.is("14: it is empty then", x.count(10), 0);
        due.is("14: its value", Math.max(1, Math.min(9, 999 / 100 - 4)), x.law(0, -4, 0, 0));
        for (int i = 1; i <= 6; i++) {
            due.is("14: feed " + i, x.feed(-1L, 8), 8 * i);
        }
        due.is("14: feed 3 on 48", x.feed(0, 3), Due.FULL);
        due.is("14: feed 9 on 48", x.feed(0, 9), Due.BEYOND);
        due.is("14: feed 2 on 48", x.feed(0, 2), 50);
        due.is("14: feed 1 on 50", x.feed(0, 1), Due.FULL);
        due.is("14: count(10), full", x.count(10), 50);
        due.is("14: bytes that are no text", x.text(0), -10);
        RopeBorder y = new RopeBorder();
        y.feed(0xffffffff00003231L, 2);
        due.is("14: only the lowest bytes come", y.text(0), 1);
        y.feed(0x8000000000000031L, 8);
        due.is("14: the highest byte comes, too", y.text(0), -11);
        y.feed(0x3800000000000000L, 8);
        due.is("14: zeros are bytes", y.text(0), -10);
        y.feed(0x3131312b3131312bL >>> 8, 7);
        due.is("14: seven", y.text(0), 1);
    }

    private static void text() {
        RopeBorder x = new RopeBorder();
        due.is("15: an empty tape", x.text(0), -10);
        Due.feedAll(x, "5");
        due.is("15: text(2)", x.text(2), Due.BEYOND);
        due.is("15: text(-1)", x.text(-1), Due.BEYOND);
        due.is("15: the tape stays with BEYOND", x.count(10), 1);
        due.is("15: text(0)", x.text(0), 1);
        due.is("15: the tape is empty", x.count(10), 0);
        due.is("15: law 0", x.law(0, 0, 0, 0), 5);
        due.is("15: law 1 is as ahead", x.law(1, 0, 0, 0), 1);
        due.is("15: a fault", Due.write(x, "6+", 0), -12);
        due.is("15: the tape is empty behind a fault", x.count(10), 0);
        due.is("15: the one ahead stays", x.law(0, 0, 0, 0), 5);
        due.is("15: an empty tape again", x.text(0), -10);
        due.is("15: the one ahead still stays", x.law(0, 0, 0, 0), 5);
        due.is("15: another one", Due.write(x, "7", 0), 1);
        due.is("15: in place of one ahead", x.law(0, 0, 0, 0), 7);
        due.is("15: for the other use", Due.write(x, "0", 1), 1);
        due.is("15: law 1", x.law(1, 9, 0, 0), 0);
        due.is("15: law 0 stays", x.law(0, 9, 0, 0), 7);
        due.is("15: faults are no ERRORS", x.told(1) + x.told(2) + x.told(3) + x.told(4) + x.told(5), 2);
    }

    private static void faults() {
        Object[][] cases = {
            {"k", 0, 1}, {"l", 0, 1}, {"p", 0, 1}, {"w", 0, -10}, {"b", 0, -10},
            {"k", 1, 1}, {"w", 1, 1}, {"b", 1, 1}, {"l", 1, -10}, {"p", 1, -10},
            {"K", 0, -10}, {"x", 0, -10}, {" k", 0, -10}, {"k ", 0, -11}, {"k+w", 0, -12},
            {"0", 0, 1}, {"0000", 0, 1}, {"9999", 0, 1}, {"12345", 0, -14}, {"(12345)", 0, -15},
            {"00000", 0, -14}, {"1+12345", 0, -16}, {"12k", 0, -12}, {"k1", 0, -11}, {"kl", 0, -11},
            {"k<l", 0, 1}, {"k<l<p", 0, -13}, {"k=l>p", 0, -13}, {"(k<l)<p", 0, 1}, {"k<(l=p)", 0, 1},
            {"k<l&p>1|k=2", 0, 1}, {"k<l+1*2-3", 0, 1}, {"k<", 0, -12}, {"<k", 0, -10}, {"k<=l", 0, -12},
            {"k||l", 0, -12}, {"k&&l", 0, -12}, {"k|", 0, -12}, {"k&", 0, -12}, {"|", 0, -10},
            {"-1", 0, -10}, {"+1", 0, -10}, {"1--1", 0, -12}, {"1*-1", 0, -12}, {"k+-l", 0, -12},
            {"1%2/3*4", 0, 1}, {"1%", 0, -12}, {"%", 0, -10}, {"!", 0, -11}, {"!k", 0, 1}, {"!!k", 0, 1},
            {"k!", 0, -11}, {"k!k", 0, -11}, {"!+k", 0, -11}, {"(", 0, -11}, {"()", 0, -11}, {")", 0, -10},
            {"(k", 0, -12}, {"(k))", 0, -13}, {"(k)k", 0, -13}, {"(k)(l)", 0, -13}, {"k(l)", 0, -11},
            {"((((k))))", 0, 1}, {"(((((k)))))", 0, 1}, {"((((((k))))))", 0, -15}, {"!!!!!k", 0, 1},
            {"!!!!!!k", 0, -15}, {"!!!!!(k)", 0, -15}, {"((((!k))))", 0, 1}, {"((((!!k))))", 0, -15},
            {"!((!(k)))", 0, 1}, {"!((!(!k)))", 0, -15}, {"!k+!k+!k+!k+!k+!k+!k", 0, 1},
            {"(k)+(k)+(k)+(k)+(k)+(k)", 0, 1}, {"((((k)+((l)))))", 0, 1}, {"((((k)+(((l))))))", 0, -19}, {"((((k)+(l))))", 0, 1},
            {"!(!(!k+!k)*!!!k)", 0, 1}, {"!(!(!k+!!k)*!!!k)", 0, -18}, {"!(!(!k+!k)*!!!!k)", 0, -24}, {"!!!!!k+!!!!!k", 0, 1},
            {"k,", 0, -11}, {"k;l", 0, -11}, {"k?l", 0, -11}, {"k^l", 0, -11}, {"k>l)", 0, -13},
            {"k" + "+k".repeat(24), 0, 1}, {"k" + "+k".repeat(24) + "+", 0, -60}, {"12" + "*12".repeat(16), 0, 1},
            {"k" + (char) 200, 0, -11}, {"" + (char) 0, 0, -10}, {"" + (char) 255, 1, -10},
            {"/", 0, -10}, {":", 0, -10}, {"k/", 0, -12}, {"k:", 0, -11}
        };
        for (Object[] c : cases) {
            RopeBorder x = new RopeBorder();
            due.is("15: " + c[0] + " for " + c[1], Due.write(x, (String) c[0], (Integer) c[1]), (Integer) c[2]);
        }
    }

    private static void law() {
        RopeBorder x = new RopeBorder();
        due.is("16: law(2, ..)", x.law(2, 0, 0, 0), Due.BEYOND);
        due.is("16: law(-1, ..)", x.law(-1, 0, 0, 0), Due.BEYOND);
        int[][] jumps = {{0, 1}, {19, 1}, {20, 2}, {99, 5}, {160, 9}, {180, 9}, {-20, 1}, {Integer.MAX_VALUE, 9}, {Integer.MIN_VALUE, 1}};
        for (int[] c : jumps) {
            due.is("16: law(0, 7, " + c[0] + ", 8)", x.law(0, 7, c[0], 8), c[1]);
        }
        due.is("16: JUMPED 0, 99", x.law(1, 0, 99, 5), 1);
        due.is("16: JUMPED 0, 100", x.law(1, 0, 100, 5), 0);
        due.is("16: JUMPED 9, 999", x.law(1, 9, 999, 5), 1);
        due.is("16: JUMPED 9, 1000", x.law(1, 9, 1000, 5), 0);
        due.is("16: JUMPED wraps", x.law(1, 42949672, 0, 0), asNumber(0 < 100 * 42949673));
        due.is("16: JUMPED wraps below", x.law(1, 21474836, 0, 0), asNumber(0 < 100 * 21474837));
        Due.write(x, "k-l*2+p*3", 0);
        due.is("16: 4, 1, 1", x.law(0, 4, 1, 1), 5);
        due.is("16: 1, 1, 1", x.law(0, 1, 1, 1), 2);
        due.is("16: held above", x.law(0, 100, 0, 0), 9);
        due.is("16: held below", x.law(0, 0, 100, 0), 1);
        Due.write(x, "k-w*2+b*3", 1);
        due.is("16: 1: 1, 1, 1", x.law(1, 1, 1, 1), 1);
        due.is("16: 1: 2, 1, 0", x.law(1, 2, 1, 0), 0);
        due.is("16: 1: 0, 1, 0", x.law(1, 0, 1, 0), 0);
        due.is("16: 1: held above", x.law(1, 2, 0, 0), 1);
    }

    private static int asNumber(boolean is) {
        return is ? 1 : 0;
    }

    /** Each text is true by the document's words when it gives 1. */
    private static void values() {
        String[] ones = {
            "2+3*4=14", "(2+3)*4=20", "20-5-3=12", "20/5/2=2", "7/2=3", "7%3=1", "20%7*2=12", "2*20%7=5",
            "0-7/2=0-3", "(0-7)/2=0-3", "(0-7)%3=0-1", "7%(0-3)=1", "7/(0-2)=0-3", "5/0=0", "5%0=0", "0/0=0",
            "!0", "!5=0", "!!5=1", "!(0-1)=0", "!0*5=5", "!0+1=2", "1|0", "0|1", "(0|0)=0", "(5|0)=1", "(0|7)=1",
            "1&1", "(1&0)=0", "(0&1)=0", "(5&7)=1", "(6&1)=1", "1|0&0", "(0&0|1)=1", "1<2", "(1<2)=1", "(2>1)=1", "(2=2)=1", "(2<2)=0", "(3<2)=0",
            "2>1", "(2>2)=0", "(1>2)=0", "2=2", "(2=3)=0", "1<2&2<3", "0|2>1", "1=1&2", "1+1=2|0", "0=1=0|1",
            "k=3", "w=5", "b=7", "k+w=8", "w*b-k=32", "0-1<0", "9999*9999*9999>0-1|1", "0009=9", "1<1+1", "3-1>1"
        };
        for (String text : ones) {
            RopeBorder x = new RopeBorder();
            int answer = Due.write(x, text, 1);
            if (text.equals("0=1=0|1")) {
                due.is("15: " + text, answer, -13);
            } else {
                due.is("15: " + text, answer, 1);
                due.is("16: " + text, x.law(1, 3, 5, 7), 1);
            }
        }
        RopeBorder x = new RopeBorder();
        Due.write(x, "k/l=0-p", 0);
        due.is("16: the least by -1 wraps", x.law(0, Integer.MIN_VALUE, -1, Integer.MIN_VALUE), 1);
        Due.write(x, "2+(k/l=p)", 0);
        due.is("16: the least by -1 is the least", x.law(0, Integer.MIN_VALUE, -1, Integer.MIN_VALUE), 3);
        Due.write(x, "2+(k%l=0)", 0);
        due.is("16: the least's rest by -1", x.law(0, Integer.MIN_VALUE, -1, 0), 3);
        Due.write(x, "2+(k+l=p)", 0);
        due.is("16: + wraps", x.law(0, Integer.MAX_VALUE, 1, Integer.MIN_VALUE), 3);
        Due.write(x, "2+(k*l=p)", 0);
        due.is("16: * wraps", x.law(0, 65536, 65536, 0), 3);
    }
}
