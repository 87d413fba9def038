/** Promises 38 to 43: images, numbers that wait, counts, what is told. */
public final class ImagesTest {
    private static final Due due = new Due("ImagesTest");

    public static void main(String[] args) {
        images();
        imageKeepsAll();
        imageLeavesOut();
        whoComesAnewIsNew();
        tell();
        check();
        count();
        told();
        due.end();
    }

    private static void images() {
        RopeBorder x = new RopeBorder();
        due.is("39: restore() of none", x.restore(), Due.NONE);
        x.beats(5);
        due.is("38: image()", x.image(), 1);
        x.beats(7);
        due.is("39: restore()", x.restore(), 5);
        due.is("39: count(3)", x.count(3), 5);
        x.beats(1);
        due.is("39: restore() again, it stays", x.restore(), 5);
        x.beats(2);
        due.is("38: image() in place of one ahead", x.image(), 2);
        x.beats(3);
        due.is("39: restore() of the latter", x.restore(), 7);
        due.is("38: how often isn't kept", x.image(), 3);
    }

    private static RopeBorder filled() {
        RopeBorder x = new RopeBorder();
        x.rope(5);
        x.rhyme(6, 21);
        x.turner(30);
        x.turner(40);
        x.relieve(1);
        x.crosser(25, 3, 4);
        x.crosser(48, 9, 2);
        x.change(0, 1, 77);
        x.go(3);
        Due.write(x, "4", 0);
        Due.write(x, "b=2", 1);
        x.seed(99);
        x.beats(2);
        x.splice(3, 33);
        x.tell(0);
        x.tell(8);
        Due.feedAll(x, "1+");
        return x;
    }

    private static int[] seen(RopeBorder x) {
        int[] all = new int[80];
        int n = 0;
        for (int what = 0; what <= 13; what++) {
            all[n++] = what == 12 ? 0 : x.count(what);
        }
        for (int turner = 0; turner < 2; turner++) {
            for (int what = 0; what < 3; what++) {
                all[n++] = x.ofTurner(turner, what);
            }
        }
        for (int crosser = 0; crosser < 2; crosser++) {
            for (int what = 0; what < 10; what++) {
                all[n++] = x.ofCrosser(crosser, what);
            }
        }
        for (int place = 0; place < 5; place++) {
            all[n++] = x.wear(place);
        }
        all[n++] = x.law(0, 0, 0, 0);
        all[n++] = x.law(1, 0, 0, 2);
        all[n++] = x.law(1, 0, 0, 1);
        return all;
    }

    private static void changeAll(RopeBorder x) {
        x.rhyme(3, 1);
        x.turner(50);
        x.relieve(2);
        x.crosser(0, 0, 0);
        x.become(0, 11);
        x.become(1, 12);
        for (int crosser = 0; crosser < 2; crosser++) {
            x.change(crosser, 0, 1);
            x.change(crosser, 1, 2);
            x.change(crosser, 2, 3);
            x.change(crosser, 3, 3);
        }
        x.go(4);
        x.text(0);
        Due.write(x, "9", 0);
        Due.write(x, "b=1", 1);
        Due.feedAll(x, "klmn");
        x.seed(3);
        x.loose(9);
        for (int place = 0; place < 5; place++) {
            x.splice(place, 500 + place);
        }
        x.check();
        x.tell(7);
        x.tell(7);
        x.tell(7);
    }

    private static void imageKeepsAll() {
        RopeBorder x = filled();
        int[] before = seen(x);
        due.is("38: image()", x.image(), 1);
        changeAll(x);
        due.is("39: restore()", x.restore(), 2);
        int[] after = seen(x);
        for (int i = 0; i < before.length; i++) {
            due.is("39: what was seen, " + i, after[i], before[i]);
        }
        Due.feedAll(x, "7");
        due.is("39: the tape is 1+7", x.text(0), 1);
        due.is("39: and gives 8", x.law(0, 0, 0, 0), 8);
        due.is("39: the numbers are 0, 8", x.check(), 2);
        x.restore();
        due.is("39: once more, bytes", x.count(10), 2);
        due.is("39: once more, numbers", x.count(11), 2);
        due.is("39: once more, the text", x.law(0, 0, 0, 0), 4);
        RopeBorder y = new RopeBorder();
        y.splice(3, 9);
        y.image();
        y.rope(2);
        y.restore();
        due.is("39: the rope's places", y.count(0), 4);
        due.is("39: the rope's wear", y.wear(3), 9);
        Due.write(y, "5", 0);
        y.restore();
        due.is("39: no text is kept, too", y.law(0, 0, 40, 0), 3);
    }

    private static void imageLeavesOut() {
        RopeBorder x = filled();
        x.sheet(0, 8, 1);
        x.sheet(1, 8, 1);
        x.image();
        x.sheet(0, 0, 0);
        x.put(1, 0, 1);
        x.sheet(2, 16, 2);
        x.voice(0, 2, 0);
        int beyond = x.told(1);
        x.wear(9);
        x.restore();
        due.is("38: no sheet that is missing", x.put(0, 0, 0), Due.NONE);
        due.is("38: no number of a sheet (0 is in: so it is; 1 lacks)", x.judge(1), 1);
        due.is("38: no new sheet", x.put(2, 1, 0), 1);
        due.is("38: no trace", x.trace(0), 12);
        due.is("38: no ERRORS that are told", x.told(1), beyond + 1);
    }

    private static void whoComesAnewIsNew() {
        RopeBorder x = new RopeBorder();
        x.image();
        x.turner(50);
        x.crosser(29, 5, 3);
        x.change(0, 1, 99);
        x.go(1);
        x.beats(3);
        due.is("39: he was in", x.ofCrosser(0, 5), 1);
        x.restore();
        x.turner(60);
        x.crosser(14, 6, 2);
        int[] want = {1, 4, 6, 0, 2, 0, 0, 1, 0, 0};
        for (int what = 0; what < 10; what++) {
            due.is("7: ofCrosser(0, " + what + ") anew", x.ofCrosser(0, what), want[what]);
        }
        due.is("4: STRENGTH anew", x.ofTurner(0, 0), 60);
        due.is("4: TIRED anew", x.ofTurner(0, 1), 0);
    }

    private static void tell() {
        RopeBorder x = new RopeBorder();
        for (int i = 1; i <= 20; i++) {
            due.is("40: tell " + i, x.tell(i % 2 == 0 ? Integer.MIN_VALUE : Integer.MAX_VALUE), i);
        }
        due.is("40: a 21st", x.tell(0), Due.FULL);
        due.is("40: count(11)", x.count(11), 20);
        due.is("40: told(4)", x.told(4), 1);
        due.is("40: check() empties", x.check(), 1);
        due.is("40: tell again", x.tell(0), 1);
    }

    private static void check() {
        // two at place 0, one at place 1 who needs two jumps: north behind 6, 10 and 10 beats
        int[] north = {0, 0, 0, 0, 0, 1, 1, 1, 1, 3, 3, 3, 3, 3, 3, 3, 3, 3, 3, 3};
        for (int wrong = -1; wrong < 20; wrong++) {
            RopeBorder x = new RopeBorder();
            x.turner(50);
            x.crosser(0, 0, 0);
            x.crosser(0, 0, 0);
            x.crosser(21, 0, 1);
            x.go(7);
            for (int i = 0; i < 20; i++) {
                x.tell(i == wrong || (i == wrong + 2 && wrong >= 0) ? north[i] + 1 : north[i]);
            }
            due.is("41: check(), wrong at " + wrong, x.check(), 1 + wrong);
            due.is("41: none wait then", x.count(11), 0);
            due.is("41: check() of none", x.check(), 0);
            due.is("41: only thought", x.count(3), 0);
        }
        RopeBorder x = new RopeBorder();
        x.crosser(0, 0, 0);
        x.change(0, 3, 2);
        x.tell(1);
        due.is("41: one who is north already", x.check(), 0);
        due.is("41: no ERROR", x.told(1) + x.told(2) + x.told(3) + x.told(4) + x.told(5), 0);
    }

    private static void count() {
        RopeBorder x = filled();
        x.change(0, 3, 2);
        x.change(1, 3, 3);
        x.voice(0, 3, 1);
        int[] want = {5, 6, 21, 2, 2, 1, 2, 3, 1, 2, 2, 2, 6, 99};
        for (int what = 0; what <= 13; what++) {
            due.is("42: count(" + what + ")", x.count(what), want[what]);
        }
        due.is("42: count(14)", x.count(14), Due.BEYOND);
        due.is("42: count(-1)", x.count(-1), Due.BEYOND);
        x.seed(Due.NONE);
        due.is("42: count(13) that looks like an ERROR", x.count(13), Due.NONE);
        due.is("42: is none", x.told(2), 0);
    }

    private static void told() {
        RopeBorder x = new RopeBorder();
        due.is("43: told(0)", x.told(0), Due.BEYOND);
        due.is("43: told(6)", x.told(6), Due.BEYOND);
        due.is("43: told(MIN)", x.told(Integer.MIN_VALUE), Due.BEYOND);
        due.is("43: told(1), those counted, too", x.told(1), 3);
        x.relief();
        x.relief();
        due.is("43: told(2)", x.told(2), 2);
        x.sheet(0, 8, -1);
        due.is("43: told(3)", x.told(3), 1);
        for (int i = 0; i < 7; i++) {
            x.turner(9);
        }
        due.is("43: told(4)", x.told(4), 3);
        x.crosser(0, 0, 0);
        for (int i = 0; i < 4; i++) {
            x.as(0, 1);
        }
        due.is("43: told(5)", x.told(5), 4);
        due.is("43: told(1) is as before", x.told(1), 3);
    }
}
