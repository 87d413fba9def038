/** Promises 7 to 12: crossers, what they are, and who goes. */
public final class CrossersTest {
    private static final Due due = new Due("CrossersTest");

    public static void main(String[] args) {
        crosser();
        ofCrosser();
        needs();
        wears();
        change();
        become();
        as();
        go();
        due.end();
    }

    private static void crosser() {
        RopeBorder x = new RopeBorder();
        due.is("7: crosser(-1, 0, 0)", x.crosser(-1, 0, 0), Due.BEYOND);
        due.is("7: crosser(70, 0, 0)", x.crosser(70, 0, 0), Due.BEYOND);
        due.is("7: crosser(0, -1, 0)", x.crosser(0, -1, 0), Due.BEYOND);
        due.is("7: crosser(0, 10, 0)", x.crosser(0, 10, 0), Due.BEYOND);
        due.is("7: crosser(0, 0, -1)", x.crosser(0, 0, -1), Due.BEYOND);
        due.is("7: crosser(0, 0, 4)", x.crosser(0, 0, 4), Due.BEYOND);
        due.is("7: count(6) behind errors", x.count(6), 0);
        due.is("7: crosser(0, 0, 0)", x.crosser(0, 0, 0), 0);
        due.is("7: crosser(69, 9, 3)", x.crosser(69, 9, 3), 1);
        for (int i = 2; i < 8; i++) {
            due.is("7: crosser " + i, x.crosser(10 * i % 70 + i, i, i % 4), i);
        }
        due.is("7: count(6)", x.count(6), 8);
        due.is("7: a ninth, beyond", x.crosser(70, 0, 0), Due.BEYOND);
        due.is("7: a ninth", x.crosser(0, 0, 0), Due.FULL);
        int[] second = {6, 9, 9, 0, 3, 0, 0, 3, 2, 0};
        for (int what = 0; what < 10; what++) {
            due.is("7: ofCrosser(1, " + what + ")", x.ofCrosser(1, what), second[what]);
        }
    }

    private static void ofCrosser() {
        RopeBorder x = new RopeBorder();
        due.is("8: ofCrosser(0, 0) of none", x.ofCrosser(0, 0), Due.BEYOND);
        x.crosser(25, 3, 2);
        x.turner(50);
        x.change(0, 1, 47);
        x.go(1);
        x.beats(2);
        int[] want = {2, 5, 3, 47, 2, 1, 5, 5, 5, 1};
        for (int what = 0; what < 10; what++) {
            due.is("8: ofCrosser(0, " + what + ")", x.ofCrosser(0, what), want[what]);
        }
        due.is("8: ofCrosser(0, 10)", x.ofCrosser(0, 10), Due.BEYOND);
        due.is("8: ofCrosser(0, -1)", x.ofCrosser(0, -1), Due.BEYOND);
        due.is("8: ofCrosser(1, 0)", x.ofCrosser(1, 0), Due.BEYOND);
        due.is("8: ofCrosser(-1, 0)", x.ofCrosser(-1, 0), Due.BEYOND);
        x.go(0);
        due.is("8: goes no more", x.ofCrosser(0, 9), 0);
        due.is("8: told(1)", x.told(1), 5);
    }

    private static void needs() {
        RopeBorder x = new RopeBorder();
        x.crosser(0, 0, 0);
        // by kind, with m 4 (rest by 3: 1), and what the text gives
        int[][] want = {
            {1, 1, 2, 1, 3, 4, 3},
            {3, 2, 4, 1, 4, 8, 3},
            {9, 8, 10, 1, 10, 20, 3}
        };
        String[] texts = {"1", "3", "9"};
        for (int t = 0; t < 3; t++) {
            due.is("8: text " + texts[t], Due.write(x, texts[t], 0), 1);
            for (int kind = 0; kind < 7; kind++) {
                x.become(0, 10 * kind + 4);
                due.is("8: NEEDS of kind " + kind + " with " + texts[t], x.ofCrosser(0, 7), want[t][kind]);
            }
        }
        Due.write(x, "k*100+l*10+p=1296", 0);
        x.become(0, 0);
        x.change(0, 0, 7);
        x.change(0, 1, 59);
        x.rhyme(6, 0);
        due.is("8: names are SKILL, LOAD, the beats of the rhyme", x.ofCrosser(0, 7), 1);
        Due.write(x, "2+(k*100+l*10+p=1296)", 0);
        due.is("8: names, told apart", x.ofCrosser(0, 7), 3);
        x.become(0, 29);
        due.is("8: a rest of 0 by 3", x.ofCrosser(0, 7), 3);
        x.become(0, 28);
        due.is("8: a rest of 2 by 3", x.ofCrosser(0, 7), 5);
        x.become(0, 58);
        due.is("8: a tourist's rest of 2 by 3", x.ofCrosser(0, 7), 10);
        x.become(0, 59);
        due.is("8: a tourist's rest of 0 by 3", x.ofCrosser(0, 7), 6);
    }

    private static void wears() {
        RopeBorder x = new RopeBorder();
        x.crosser(0, 0, 0);
        int[][] want = {{1, 0, 1, 1, 7, 1, 2}, {1, 0, 1, 1, 7, 1, 2}, {1, 0, 2, 1, 7, 2, 2}, {1, 0, 10, 1, 7, 10, 2}};
        int[] loads = {0, 9, 10, 99};
        for (int l = 0; l < 4; l++) {
            x.change(0, 1, loads[l]);
            for (int kind = 0; kind < 7; kind++) {
                x.become(0, 10 * kind + 7);
                due.is("8: WEARS of kind " + kind + " with load " + loads[l], x.ofCrosser(0, 8), want[l][kind]);
            }
        }
        x.become(0, 40);
        due.is("8: WEARS of an army of m 0", x.ofCrosser(0, 8), 0);
    }

    private static void change() {
        RopeBorder x = new RopeBorder();
        due.is("9: change(0, 0, 0) of none", x.change(0, 0, 0), Due.BEYOND);
        x.crosser(0, 3, 1);
        int[][] ranges = {{9, 3}, {99, 0}, {3, 1}};
        for (int what = 0; what < 3; what++) {
            int most = ranges[what][0];
            due.is("9: below, " + what, x.change(0, what, -1), Due.BEYOND);
            due.is("9: above, " + what, x.change(0, what, most + 1), Due.BEYOND);
            due.is("9: most, " + what, x.change(0, what, most), ranges[what][1]);
            due.is("9: least, " + what, x.change(0, what, 0), most);
            due.is("9: became, " + what, x.ofCrosser(0, 2 + what), 0);
        }
        due.is("9: what 4", x.change(0, 4, 0), Due.BEYOND);
        due.is("9: what -1", x.change(0, -1, 0), Due.BEYOND);
        due.is("9: crosser -1", x.change(-1, 0, 0), Due.BEYOND);
        due.is("9: crosser 1", x.change(1, 0, 0), Due.BEYOND);
        changeOfState();
    }

    private static void changeOfState() {
        RopeBorder x = new RopeBorder();
        x.turner(99);
        x.crosser(29, 3, 1);
        x.change(0, 1, 99);
        x.go(1);
        x.beats(2);
        due.is("9: he is in", x.ofCrosser(0, 5), 1);
        due.is("9: with jumps", x.ofCrosser(0, 6), 5);
        due.is("9: state 1", x.change(0, 3, 1), Due.BEYOND);
        due.is("9: state 4", x.change(0, 3, 4), Due.BEYOND);
        due.is("9: state -1", x.change(0, 3, -1), Due.BEYOND);
        due.is("9: jumps stay with an error", x.ofCrosser(0, 6), 5);
        due.is("9: state 3", x.change(0, 3, 3), 1);
        due.is("9: jumps are 0 then", x.ofCrosser(0, 6), 0);
        due.is("9: state 2", x.change(0, 3, 2), 3);
        due.is("9: state 0", x.change(0, 3, 0), 2);
        due.is("9: he still goes", x.ofCrosser(0, 9), 1);
        x.beats(1);
        due.is("9: and is in again", x.ofCrosser(0, 5), 1);
        x.change(0, 0, 1);
        x.change(0, 1, 5);
        x.change(0, 2, 0);
        due.is("9: jumps stay with another change", x.ofCrosser(0, 6), 5);
    }

    private static void become() {
        RopeBorder x = new RopeBorder();
        due.is("10: become(0, 0) of none", x.become(0, 0), Due.BEYOND);
        x.crosser(13, 3, 1);
        due.is("10: become(0, 70)", x.become(0, 70), Due.BEYOND);
        due.is("10: become(0, -1)", x.become(0, -1), Due.BEYOND);
        due.is("10: become(1, 0)", x.become(1, 0), Due.BEYOND);
        due.is("10: become(0, 69)", x.become(0, 69), 1);
        due.is("10: KIND", x.ofCrosser(0, 0), 6);
        due.is("10: m", x.ofCrosser(0, 1), 9);
        due.is("10: become(0, 0)", x.become(0, 0), 6);
        due.is("10: become(0, 7)", x.become(0, 7), 0);
        due.is("10: SKILL stays", x.ofCrosser(0, 2), 3);
        due.is("10: PLACE stays", x.ofCrosser(0, 4), 1);
    }

    private static void as() {
        RopeBorder x = new RopeBorder();
        due.is("11: as(0, 0) of none", x.as(0, 0), Due.BEYOND);
        x.crosser(0, 0, 0);
        // the sets of kinds that each kind is of: itself and those above it
        int[] kinds = {1, 3, 5, 9, 19, 37, 73};
        for (int kind = 0; kind < 7; kind++) {
            x.become(0, 10 * kind + 6);
            for (int asked = 0; asked < 7; asked++) {
                boolean is = (kinds[kind] >> asked & 1) == 1;
                due.is("11: " + kind + " as " + asked, x.as(0, asked), is ? 6 : Due.KIND);
            }
        }
        due.is("11: as(0, 7)", x.as(0, 7), Due.BEYOND);
        due.is("11: as(0, -1)", x.as(0, -1), Due.BEYOND);
        due.is("11: as(1, 0)", x.as(1, 0), Due.BEYOND);
        due.is("11: as(-1, 0)", x.as(-1, 0), Due.BEYOND);
        due.is("11: told(5)", x.told(5), 49 - 16);
    }

    private static void go() {
        RopeBorder x = new RopeBorder();
        due.is("12: go(0) of none", x.go(0), 0);
        due.is("12: go(1) of none", x.go(1), Due.BEYOND);
        for (int i = 0; i < 8; i++) {
            x.crosser(0, 0, 0);
        }
        due.is("12: go(255)", x.go(255), 0);
        due.is("12: go(256)", x.go(256), Due.BEYOND);
        due.is("12: go(-1)", x.go(-1), Due.BEYOND);
        due.is("12: go(MIN)", x.go(Integer.MIN_VALUE), Due.BEYOND);
        due.is("12: go(5)", x.go(5), 255);
        due.is("12: count(7)", x.count(7), 5);
        for (int i = 0; i < 8; i++) {
            due.is("12: whether " + i + " goes", x.ofCrosser(i, 9), i == 0 || i == 2 ? 1 : 0);
        }
    }
}
