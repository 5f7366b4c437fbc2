/** The sentences of the promises (but of 3) that name a boundary: a test of its own for each. */
public final class EdgesTest {
    private static final int NONE = PageTurner.NONE;
    private static final int LEAST = Integer.MIN_VALUE;
    private static final int MOST = Integer.MAX_VALUE;
    private static final String TUNE = "c4:1 | (d4 e4):2 !~f4:1 | % r:1 @g4:3 :|";

    private static PageTurner playedTune() {
        PageTurner turner = Check.playing(TUNE);
        turner.heard(48, 100);
        turner.heard(52, 700);
        return turner;
    }

    /** A scale of notes a beat long, the first notes of it heard at these times. */
    private static PageTurner scale(int... times) {
        PageTurner turner = Check.playing("c4:1 d4:1 e4:1 f4:1 g4:1 a4:1 b4:1 c5:1 |");
        int[] notes = {48, 50, 52, 53, 55, 57, 59, 60};
        for (int i = 0; i < times.length; i++) {
            Check.same("the scale's note " + i, turner.heard(notes[i], times[i]), i);
        }
        return turner;
    }

    private static void isTempo(String what, PageTurner turner, int upper, int lower) {
        Check.same(what + ", above", turner.tempo(false), upper);
        Check.same(what + ", below", turner.tempo(true), lower);
    }

    /** 1: "No music." */
    private static void noMusic() {
        PageTurner turner = new PageTurner();
        for (int what = 0; what <= 7; what++) {
            Check.same("1: count(" + what + ")", turner.count(what), 0);
        }
        Check.noSuch("1: event(0, 0)", () -> turner.event(0, 0));
        Check.noSuch("1: place(0)", () -> turner.place(0));
        Check.noSuch("1: cost(0, 0)", () -> turner.cost(0, 0));
        Check.noSuch("1: sure()", turner::sure);
        Check.same("1: heard(48, 0)", turner.heard(48, 0), NONE);
        Check.same("1: an object of its own", playedTune().count(0), 5);
        Check.same("1: stays without", turner.count(0), 0);
    }

    /** 2: "NONE, and none come, if it would have more than 2,400." */
    private static void theTapeIsFull() {
        PageTurner turner = new PageTurner();
        String text = " ".repeat(2380) + "c4:1 d4:2 | e4:3   |";
        for (int i = 1; i <= 119; i++) {
            turner.feed(0x20202020, 0x20202020, 0x20202020, 0x20202020, 0x20202020);
        }
        Check.same("2: bytes", turner.count(6), 2380);
        Check.same("2: up to 2400", turner.feed(0x63343A31, 0x2064343A, 0x32207C20, 0x65343A33, 0x2020207C), 2400);
        String before = Shot.ofAll(turner);
        Check.same("2: beyond", turner.feed(0x21212121, 0x21212121, 0x21212121, 0x21212121, 0x21212121), NONE);
        Check.same("2: beyond again", turner.feed(0, 0, 0, 0, 0), NONE);
        Check.same("2: none come", Shot.ofAll(turner), before);
        Check.illegal("2: there are not more", () -> turner.music(2401));
        Check.same("2: they are those that came", turner.music(2400), 0);
        Check.same("2: to the last", turner.count(3), 6);
        Check.same("2: there is room again", turner.feed(0, 0, 0, 0, 0), 20);
        Check.same("2: the text told", Check.playing(text).count(3), 6);
    }

    /** 2: "of each number the highest first" */
    private static void theHighestFirst() {
        PageTurner turner = new PageTurner();
        turner.feed(0x63343A31, 0x7C64353A, 0x327C6536, 0x3A337C66, 0x373A347C);
        Check.same("2: every byte at its place", turner.music(20), 0);
        int[] pitches = {48, 62, 76, 89};
        for (int i = 0; i < pitches.length; i++) {
            Check.same("2: pitch " + i, turner.event(i, 9), pitches[i]);
            Check.same("2: number " + i, turner.event(i, 3), i + 1);
        }
        PageTurner high = new PageTurner();
        high.feed(0x20202020, 0x80FFE300, LEAST, MOST, -1);
        Check.same("2: bytes above 127", high.music(20), 1);
        Check.same("2: are no tokens", high.fault(1), 4);
    }

    /** 4: "NONE without" */
    private static void noFault() {
        PageTurner turner = new PageTurner();
        Check.same("4: of a new object", turner.fault(0), 0);
        Check.same("4: no place", turner.fault(1), NONE);
        Check.same("4: a fault at the first byte", Check.music(turner, "x"), 1);
        Check.same("4: it is told", turner.fault(0), 1);
        Check.same("4: its place is 0", turner.fault(1), 0);
        Check.same("4: no bytes", turner.music(0), 0);
        Check.same("4: none", turner.fault(0), 0);
        Check.same("4: no place then", turner.fault(1), NONE);
        Check.same("4: one more fault", Check.music(turner, "c4:0|"), 2);
        Check.illegal("4: no such many", () -> turner.music(1));
        Check.same("4: it is the latest", turner.fault(0), 2);
        Check.same("4: its place", turner.fault(1), 3);
        Check.same("4: sound music", Check.music(turner, "c4:1|"), 0);
        Check.same("4: none again", turner.fault(0), 0);
        Check.same("4: no place again", turner.fault(1), NONE);
    }

    /** 4: "another what" */
    private static void anotherWhatOfFault() {
        PageTurner turner = new PageTurner();
        Check.music(turner, "c4:1 | (d4 d4):1 |");
        Check.same("4: fault(0)", turner.fault(0), 3);
        Check.same("4: fault(1)", turner.fault(1), 11);
        for (int what : new int[] {-1, 2, LEAST, MOST}) {
            Check.noSuch("4: fault(" + what + ")", () -> turner.fault(what));
        }
    }

    /** 5: "another what" */
    private static void anotherWhatOfCount() {
        PageTurner turner = playedTune();
        turner.feed(0, 0, 0, 0, 0);
        int[] due = {5, 3, 2, 8, 2, 2, 20, 1};
        for (int what = 0; what <= 7; what++) {
            Check.same("5: count(" + what + ")", turner.count(what), due[what]);
        }
        for (int what : new int[] {-1, 8, LEAST, MOST}) {
            Check.noSuch("5: count(" + what + ")", () -> turner.count(what));
            Check.noSuch("5: of a new object, count(" + what + ")", () -> new PageTurner().count(what));
        }
    }

    private static void behind(String text, int... due) {
        PageTurner turner = Check.playing(text);
        for (int event = 0; event < due.length; event++) {
            Check.same("6: behind " + event + " of " + text, turner.event(event, 8), due[event]);
        }
        Check.noSuch("6: no more events in " + text, () -> turner.event(due.length, 8));
    }

    /** 6: "what is BEHIND it besides the next one (NONE)" */
    private static void behindIt() {
        behind("c4:1|", NONE);
        behind("c4:1:|", 0);
        behind("c4:1 d4:1|", NONE, NONE);
        behind("c4:1 d4:1:|", NONE, 0);
        behind("|:c4:1 d4:1:|e4:1|", NONE, 0, NONE);
        behind("c4:1|d4:1:|", NONE, 0);
        behind("c4:1||:d4:1:|", NONE, 1);
        behind("|:c4:1||:d4:1|e4:1:|", NONE, NONE, 1);
        behind("c4:1:|d4:1|e4:1:|", 0, NONE, 1);
        behind("|:c4:1:|d4:1:|%e4:1:|", 0, 1, 2);
        behind("|:c4:1|d4:1:|e4:1||:f4:1|g4:1:|", NONE, 0, NONE, NONE, 3);
    }

    /** 6: "no such EVENT, what" */
    private static void noSuchEventOrWhat() {
        PageTurner turner = Check.playing("r:1 c4:2 ~d4:3 (e4):4 (f4 g4 a4 b4):5 |");
        int[] last = {8, 9, 9, 9, 12};
        int[] due = {NONE, 48, 50, 52, 59};
        for (int i = 0; i < last.length; i++) {
            int event = i;
            int beyond = last[i] + 1;
            Check.same("6: event(" + i + ", 0)", turner.event(i, 0), new int[] {3, 0, 2, 1, 1}[i]);
            Check.same("6: event(" + i + ", " + last[i] + ")", turner.event(i, last[i]), due[i]);
            for (int what : new int[] {-1, beyond, 13, 14, LEAST, MOST}) {
                Check.noSuch("6: event(" + i + ", " + what + ")", () -> turner.event(event, what));
            }
        }
        for (int event : new int[] {-1, 5, 100, LEAST, MOST}) {
            Check.noSuch("6: event(" + event + ", 0)", () -> turner.event(event, 0));
            Check.noSuch("6: event(" + event + ", 9)", () -> turner.event(event, 9));
        }
        PageTurner full = Check.playing("r:999 ".repeat(100) + "|");
        Check.same("6: the hundredth", full.event(99, 2), 98901);
        Check.noSuch("6: one more", () -> full.event(100, 2));
        Check.same("6: less music", Check.music(full, "r:1|"), 0);
        Check.noSuch("6: those ahead are gone", () -> full.event(1, 2));
    }

    /** 7: "COSTS of now stay; notes to come are reckoned by it" */
    private static void costsStay() {
        PageTurner turner = Check.playing("c4:1 d4:1 | @e4:1 |");
        turner.heard(60, 0);
        int[][] costs = {{2, 3}, {4, 5}, {6, 7}};
        isCost("7: at first", turner, costs);
        Check.same("7: WRONG", turner.price(0, 10), 3);
        Check.same("7: ADDED", turner.price(1, 20), 2);
        Check.same("7: LEFT", turner.price(2, 1), 2);
        Check.same("7: JUMP", turner.price(3, 0), 6);
        isCost("7: stay", turner, costs);
        Check.same("7: the place's stays", turner.place(2), 2);
        Check.same("7: and what is sure", turner.sure(), 4);
        turner.heard(60, 0);
        // to e by a jump from the first place, at 2; d from its own 4 or the wrong c's 3
        isCost("7: by the new ones", turner, new int[][] {{22, 12}, {23, 13}, {22, 12}});
        turner.back();
        isCost("7: of then", turner, costs);
        turner.again();
        turner.heard(60, 0);
        isCost("7: all by the new ones", turner, new int[][] {{20, 10}, {21, 11}, {20, 10}});
    }

    private static void isCost(String what, PageTurner turner, int[][] due) {
        for (int event = 0; event < due.length; event++) {
            for (int bits = 0; bits < due[event].length; bits++) {
                Check.same(what + ", cost(" + event + ", " + bits + ")", turner.cost(event, bits), due[event][bits]);
            }
        }
    }

    /** 7: "no such PRICE, v is not 0 to 50" */
    private static void noSuchPrice() {
        PageTurner turner = playedTune();
        String before = Shot.ofAll(turner);
        for (int what = 0; what <= 3; what++) {
            int price = what;
            for (int v : new int[] {-1, 51, LEAST, MOST}) {
                Check.illegal("7: price(" + what + ", " + v + ")", () -> turner.price(price, v));
            }
        }
        for (int what : new int[] {-1, 4, LEAST, MOST}) {
            for (int v : new int[] {-1, 0, 50, 51}) {
                Check.illegal("7: price(" + what + ", " + v + ")", () -> turner.price(what, v));
            }
        }
        Check.same("7: nothing changes", Shot.ofAll(turner), before);
        int[] first = {3, 2, 2, 6};
        for (int what = 0; what <= 3; what++) {
            Check.same("7: price(" + what + ", 0)", turner.price(what, 0), first[what]);
            Check.same("7: price(" + what + ", 50)", turner.price(what, 50), 0);
            Check.same("7: price(" + what + ", 1)", turner.price(what, 1), 50);
        }
    }

    /** 8: "NONE, and nothing changes: there is no music (no EVENTS)" */
    private static void nothingToHear() {
        PageTurner turner = new PageTurner();
        String before = Shot.ofAll(turner);
        Check.same("8: no music", turner.heard(48, 5), NONE);
        Check.same("8: nothing changes", Shot.ofAll(turner), before);
        Check.same("8: blanks", Check.music(turner, " \n "), 0);
        Check.same("8: no events", turner.heard(48, 5), NONE);
        Check.same("8: nothing changes then", Shot.ofAll(turner), before);
        Check.same("8: one event", Check.music(turner, "r:1|"), 0);
        Check.same("8: an earlier time, as the others were not heard", turner.heard(48, 0), 0);
        Check.same("8: heard", turner.count(4), 1);
        Check.same("8: no events again", turner.music(0), 0);
        Check.same("8: nothing to hear", turner.heard(48, 9), NONE);
    }

    /** 8: "NONE, and nothing changes: .. 400 were heard" */
    private static void fourHundred() {
        PageTurner turner = Check.playing("~c4:1|");
        for (int i = 0; i < 399; i++) {
            turner.heard(48, i);
        }
        Check.same("8: the 400th", turner.heard(60, 399), 0);
        Check.same("8: 400", turner.count(4), 400);
        Check.same("8: its cost", turner.place(2), 2);
        String before = Shot.ofAll(turner);
        Check.same("8: the 401st", turner.heard(60, 400), NONE);
        Check.same("8: nothing changes", Shot.ofAll(turner), before);
        Check.same("8: one is taken back", turner.back(), 399);
        Check.same("8: its cost is", turner.place(2), 0);
        Check.same("8: there is room for one", turner.heard(48, 398), 0);
        Check.same("8: and for no other", turner.heard(48, 399), NONE);
    }

    /** 8: "NONE, and nothing changes: .. or the time is ahead of the latest one's" */
    private static void tooEarly() {
        PageTurner turner = Check.playing(TUNE);
        turner.heard(48, 100);
        String before = Shot.ofAll(turner);
        Check.same("8: 99", turner.heard(52, 99), NONE);
        Check.same("8: 0", turner.heard(52, 0), NONE);
        Check.same("8: nothing changes", Shot.ofAll(turner), before);
        Check.same("8: 100", turner.heard(52, 100), 1);
        Check.same("8: 101", turner.heard(50, 101), 1);
        Check.same("8: 100 then", turner.heard(50, 100), NONE);
        turner.back();
        Check.same("8: 100 once 101 is taken back", turner.heard(50, 100), 1);
        turner.again();
        Check.same("8: 0 once nothing is heard", turner.heard(48, 0), 0);
        Check.same("8: the last time", turner.heard(52, 100000000), 1);
        Check.same("8: just ahead of it", turner.heard(50, 99999999), NONE);
        Check.same("8: the last time again", turner.heard(50, 100000000), 1);
    }

    /** 8: "no such number, time" */
    private static void noSuchNoteOrTime() {
        PageTurner turner = playedTune();
        String before = Shot.ofAll(turner);
        for (int note : new int[] {-1, 128, LEAST, MOST}) {
            Check.illegal("8: heard(" + note + ", 700)", () -> turner.heard(note, 700));
        }
        for (int time : new int[] {-1, 100000001, LEAST, MOST}) {
            Check.illegal("8: heard(48, " + time + ")", () -> turner.heard(48, time));
        }
        Check.same("8: nothing changes", Shot.ofAll(turner), before);
        Check.same("8: note 0", turner.heard(0, 700), 1);
        Check.same("8: note 127 at the last time", turner.heard(127, 100000000), 1);
        Check.same("8: both are heard", turner.count(4), 4);
        turner.again();
        Check.same("8: time 0", turner.heard(48, 0), 0);
    }

    /** 9: "NONE: there is none." */
    private static void noneToTakeBack() {
        PageTurner turner = new PageTurner();
        Check.same("9: without music", turner.back(), NONE);
        Check.same("9: music", Check.music(turner, TUNE), 0);
        String before = Shot.ofAll(turner);
        Check.same("9: without notes", turner.back(), NONE);
        Check.same("9: nothing changes", Shot.ofAll(turner), before);
        turner.heard(48, 100);
        turner.heard(52, 200);
        Check.same("9: one is left", turner.back(), 1);
        Check.same("9: none is left", turner.back(), 0);
        Check.same("9: none to take back", turner.back(), NONE);
        Check.same("9: all as at first", Shot.ofAll(turner), before);
        turner.heard(48, 100);
        turner.again();
        Check.same("9: none once nothing is heard", turner.back(), NONE);
        turner.heard(48, 100);
        Check.music(turner, "c4:1 |");
        Check.same("9: none in other music", turner.back(), NONE);
        Check.same("9: still none", turner.count(4), 0);
    }

    /** 10: "Nothing is heard: how many notes there were." */
    private static void nothingIsHeard() {
        Check.same("10: without music", new PageTurner().again(), 0);
        PageTurner turner = Check.playing(TUNE);
        String before = Shot.ofAll(turner);
        Check.same("10: without notes", turner.again(), 0);
        turner.heard(48, 100);
        Check.same("10: one", turner.again(), 1);
        Check.same("10: all as at first", Shot.ofAll(turner), before);
        turner.heard(48, 0);
        turner.heard(48, 100);
        turner.heard(52, 200);
        turner.back();
        Check.same("10: two, the third was taken back", turner.again(), 2);
        Check.same("10: all as at first again", Shot.ofAll(turner), before);
        PageTurner busy = Check.playing("c4:1|");
        for (int i = 0; i < 400; i++) {
            busy.heard(48, i);
        }
        Check.same("10: 400", busy.again(), 400);
        Check.same("10: none then", busy.again(), 0);
        Check.same("10: room for more", busy.heard(48, 0), 0);
    }

    /** 11: "there is no music, another what" */
    private static void noPlace() {
        PageTurner turner = new PageTurner();
        for (int what = -1; what <= 5; what++) {
            int wanted = what;
            Check.noSuch("11: no music, place(" + what + ")", () -> turner.place(wanted));
        }
        Check.same("11: blanks", Check.music(turner, "   "), 0);
        Check.noSuch("11: no events", () -> turner.place(0));
        Check.same("11: one event", Check.music(turner, "r:1|"), 0);
        for (int what = 0; what <= 4; what++) {
            Check.same("11: place(" + what + ")", turner.place(what), 0);
        }
        for (int what : new int[] {-1, 5, LEAST, MOST}) {
            Check.noSuch("11: place(" + what + ")", () -> turner.place(what));
        }
        PageTurner far = Check.playing("r:1 | r:1 | % r:1 (c4 d4):1 |");
        far.heard(50, 0);
        far.heard(60, 0);
        int[] due = {3, 2, 2, 2, 1};
        for (int what = 0; what <= 4; what++) {
            Check.same("11: further on, place(" + what + ")", far.place(what), due[what]);
        }
        Check.same("11: music without events", far.music(0), 0);
        Check.noSuch("11: no place in it", () -> far.place(0));
    }

    /** 11: "of like ones that of the least EVENT, then the least bits" */
    private static void likeCosts() {
        PageTurner turner = Check.playing("(c4 d4):1 c4:1 |");
        turner.price(0, 2);
        turner.price(2, 0);
        turner.heard(60, 0);
        isCost("11: like ones", turner, new int[][] {{2, 2, NONE, NONE}, {2, 2}});
        Check.same("11: the least event", turner.place(0), 0);
        Check.same("11: the least bits", turner.place(1), 0);
        turner.heard(48, 0);
        isCost("11: like ones then", turner, new int[][] {{4, 2, NONE, 4}, {4, 2}});
        Check.same("11: the least event then", turner.place(0), 0);
        Check.same("11: its bits", turner.place(1), 1);
    }

    /** 12: "NONE if no way leads there" */
    private static void noWay() {
        PageTurner turner = Check.playing("(c4 d4 e4):1 | ~f4:1 r:1 |");
        int[] all = new int[] {0, NONE, NONE, NONE, NONE, NONE, NONE, NONE};
        isCost("12: without notes", turner, new int[][] {all, {NONE, NONE}, {NONE}});
        turner.heard(52, 0);
        int[] one = new int[] {2, 3, NONE, NONE, 0, NONE, NONE, NONE};
        isCost("12: with one", turner, new int[][] {one, {8, 6}, {10}});
        turner.heard(60, 0);
        int[] two = new int[] {4, 5, NONE, 6, 2, 3, NONE, NONE};
        isCost("12: with two", turner, new int[][] {two, {6, 7}, {8}});
        turner.back();
        turner.back();
        isCost("12: with none again", turner, new int[][] {all, {NONE, NONE}, {NONE}});
    }

    /** 12: "no such EVENT, bits" */
    private static void noSuchPlace() {
        PageTurner turner = Check.playing("r:1 c4:1 ~d4:1 (e4):1 (f4 g4 a4 b4):1 |");
        int[] last = {0, 1, 1, 1, 15};
        for (int i = 0; i < last.length; i++) {
            int event = i;
            int most = last[i];
            Check.same("12: cost(" + i + ", 0)", turner.cost(i, 0), i == 0 ? 0 : NONE);
            Check.same("12: cost(" + i + ", " + most + ")", turner.cost(i, most), i == 0 ? 0 : NONE);
            for (int bits : new int[] {-1, most + 1, 16, LEAST, MOST}) {
                Check.noSuch("12: cost(" + i + ", " + bits + ")", () -> turner.cost(event, bits));
            }
        }
        for (int event : new int[] {-1, 5, 100, LEAST, MOST}) {
            Check.noSuch("12: cost(" + event + ", 0)", () -> turner.cost(event, 0));
        }
        Check.noSuch("12: without music", () -> new PageTurner().cost(0, 0));
    }

    /** 13: "NONE if there is none" */
    private static void noOtherMeasure() {
        PageTurner alone = Check.playing("c4:1 d4:1 |");
        Check.same("13: one measure, no notes", alone.sure(), NONE);
        alone.heard(48, 0);
        Check.same("13: one measure", alone.sure(), NONE);
        PageTurner two = Check.playing("c4:1 | d4:1 |");
        Check.same("13: no place in the other one", two.sure(), NONE);
        two.heard(48, 0);
        Check.same("13: one in it", two.sure(), 4);
        two.price(2, 0);
        two.again();
        two.heard(60, 0);
        Check.same("13: at the same cost", two.sure(), 0);
        two.back();
        Check.same("13: none in it again", two.sure(), NONE);
        PageTurner on = Check.playing("c4:1 | d4:1 | e4:1 |");
        on.heard(48, 0);
        on.heard(50, 0);
        Check.same("13: at the second", on.place(3), 1);
        Check.same("13: the first, one added", on.sure(), 2);
        on.heard(52, 0);
        on.heard(60, 0);
        Check.same("13: at the last", on.place(3), 2);
        Check.same("13: the second, two added", on.sure(), 2);
    }

    /** 13: "there is no music" */
    private static void sureWithoutMusic() {
        PageTurner turner = new PageTurner();
        Check.noSuch("13: a new object", turner::sure);
        Check.same("13: blanks", Check.music(turner, " "), 0);
        Check.noSuch("13: no events", turner::sure);
        Check.same("13: one event", Check.music(turner, "r:1|"), 0);
        Check.same("13: music", turner.sure(), NONE);
        turner.music(0);
        Check.noSuch("13: no events again", turner::sure);
    }

    /** 14: of HEARD "the fourth ahead of it (the first, if there are fewer)" */
    private static void theFourthAhead() {
        int[] times = {1, 10, 100, 1000, 10000, 100000, 1000000};
        isTempo("14: two", scale(1, 10), 9, 1);
        isTempo("14: three", scale(1, 10, 100), 99, 2);
        isTempo("14: four", scale(1, 10, 100, 1000), 333, 1);
        isTempo("14: five, the fourth ahead is the first", scale(1, 10, 100, 1000, 10000), 9999, 4);
        isTempo("14: six, the fourth ahead", scale(1, 10, 100, 1000, 10000, 100000), 49995, 2);
        PageTurner turner = scale(times);
        isTempo("14: seven, the fourth ahead", turner, 249975, 1);
        turner.back();
        isTempo("14: six again", turner, 49995, 2);
        turner.back();
        isTempo("14: five again", turner, 9999, 4);
    }

    /** 14: of HEARD "if there are two; else 500 by 1" */
    private static void fiveHundredByOne() {
        PageTurner turner = new PageTurner();
        isTempo("14: no music", turner, 500, 1);
        Check.same("14: music", Check.music(turner, "c4:3 @d4:1 e4:1 |"), 0);
        isTempo("14: no anchor", turner, 500, 1);
        turner.heard(48, 1000);
        turner.heard(48, 2000);
        Check.same("14: one anchor", turner.count(5), 1);
        isTempo("14: one anchor", turner, 500, 1);
        turner.heard(50, 2500);
        isTempo("14: two", turner, 500, 1);
        turner.back();
        turner.heard(50, 2800);
        isTempo("14: two, 1800 by 3", turner, 600, 1);
        turner.heard(52, 2900);
        turner.price(3, 0);
        Check.same("14: back to the mark", turner.heard(50, 3000), 1);
        Check.same("14: those ahead are gone", turner.count(5), 1);
        isTempo("14: one again", turner, 500, 1);
        turner.heard(52, 3007);
        isTempo("14: two since", turner, 7, 1);
        turner.again();
        isTempo("14: none again", turner, 500, 1);
    }

    /** 14: of HEARD "all ANCHORS ahead are gone", also where a note with one ahead was taken back */
    private static void oneAnchorOnceMore() {
        PageTurner turner = Check.playing("@c4:1 d4:1 e4:1 |");
        turner.price(2, 0);
        Check.same("14: the second event", turner.heard(50, 10), 1);
        Check.same("14: the third", turner.heard(52, 20), 2);
        isTempo("14: two", turner, 10, 1);
        turner.back();
        turner.price(3, 0);
        Check.same("14: the first", turner.heard(48, 30), 0);
        Check.same("14: the others are gone", turner.count(5), 1);
        isTempo("14: one", turner, 500, 1);
        Check.same("14: its time", turner.time(2), 1030);
    }

    /** 14: "in lowest terms" */
    private static void lowestTerms() {
        int[][] due = {{0, 0, 1}, {1, 1, 6}, {2, 1, 3}, {3, 1, 2}, {6, 1, 1}, {9, 3, 2}, {100000000, 50000000, 3}};
        for (int[] row : due) {
            PageTurner turner = Check.playing("c4:6 d4:1 |");
            turner.heard(48, 0);
            turner.heard(50, row[0]);
            isTempo("14: " + row[0] + " by 6", turner, row[1], row[2]);
        }
        PageTurner slow = Check.playing("c4:999 " + "r:999 ".repeat(98) + "d4:1 |");
        slow.price(2, 0);
        slow.heard(48, 0);
        slow.heard(50, 98901 * 2);
        isTempo("14: by all beats", slow, 2, 1);
    }

    /** 15: "NONE without an ANCHOR" */
    private static void noTime() {
        PageTurner turner = new PageTurner();
        Check.same("15: no music", turner.time(0), NONE);
        Check.same("15: music", Check.music(turner, "c4:1 d4:1 |"), 0);
        Check.same("15: no anchor", turner.time(0), NONE);
        Check.same("15: no anchor for the last one", turner.time(100000), NONE);
        turner.heard(60, 7);
        Check.same("15: the first note is one", turner.time(0), 7);
        turner.back();
        Check.same("15: taken back", turner.time(0), NONE);
        turner.heard(48, 8);
        turner.again();
        Check.same("15: nothing is heard", turner.time(0), NONE);
    }

    /** 15: "it is not 0 to 100,000" */
    private static void noSuchBeat() {
        PageTurner turner = scale(1000, 1003);
        Check.same("15: the first beat", turner.time(0), 1000);
        Check.same("15: the last beat", turner.time(100000), 301000);
        for (int beat : new int[] {-1, 100001, LEAST, MOST}) {
            Check.illegal("15: time(" + beat + ")", () -> turner.time(beat));
            Check.illegal("15: without an anchor, time(" + beat + ")", () -> new PageTurner().time(beat));
        }
    }

    /** 15: of HEARD "cut down" */
    private static void cutDown() {
        PageTurner turner = Check.playing("r:100 c4:3 d4:1 |");
        turner.heard(48, 10);
        Check.same("15: below 0", turner.time(0), 10 - 50000);
        turner.heard(50, 20);
        isTempo("15: 10 by 3", turner, 10, 3);
        long[] due = {10, 13, 16, 20, 23, 26, 30};
        for (int i = 0; i < due.length; i++) {
            Check.same("15: time(" + (100 + i) + ")", turner.time(100 + i), due[i]);
        }
        // 20 - 1030 / 3 = -323.33..
        Check.same("15: below 0, to the lesser one", turner.time(0), -324);
        PageTurner far = Check.playing("c4:1 d4:1 |");
        far.heard(48, 0);
        far.heard(50, 100000000);
        Check.same("15: the greatest", far.time(100000), 10000000000000L);
        Check.same("15: the least of these", far.time(0), 0);
    }

    /** 16: "NONE without an ANCHOR, or if it is the last one." */
    private static void noTurn() {
        PageTurner turner = new PageTurner();
        Check.same("16: no music", turner.turnsAt(), NONE);
        Check.same("16: music", Check.music(turner, "c4:1 | % d4:2 | e4:4 | % f4:1 | %"), 0);
        Check.same("16: no anchor", turner.turnsAt(), NONE);
        turner.heard(48, 10000);
        Check.same("16: the first page", turner.turnsAt(), 10000 + 500 - 1000);
        turner.heard(50, 10100);
        Check.same("16: the last page but one", turner.turnsAt(), 10100 + 600 - 1000);
        turner.heard(52, 10300);
        Check.same("16: its last event", turner.turnsAt(), 10300 + 400 - 1000);
        turner.heard(53, 10700);
        Check.same("16: the last page", turner.turnsAt(), NONE);
        turner.back();
        Check.same("16: the last page but one again", turner.turnsAt(), 10300 + 400 - 1000);
        turner.again();
        Check.same("16: no anchor again", turner.turnsAt(), NONE);
        for (String text : new String[] {"c4:1 | d4:1 |", "c4:1 | d4:1 | %"}) {
            PageTurner alone = Check.playing(text);
            alone.heard(48, 0);
            Check.same("16: one page, " + text, alone.turnsAt(), NONE);
        }
    }

    /** 17: "NONE without an ANCHOR, or such a CUE." */
    private static void noCue() {
        PageTurner turner = new PageTurner();
        Check.same("17: no music", turner.cue(), NONE);
        Check.same("17: music", Check.music(turner, "!c4:1 d4:2 !e4:4 f4:1 |"), 0);
        Check.same("17: no anchor", turner.cue(), NONE);
        turner.heard(48, 1000);
        Check.same("17: at the first event", turner.cue(), 1000);
        turner.heard(50, 1100);
        Check.same("17: at the next one", turner.cue(), 1300);
        turner.heard(52, 1200);
        Check.same("17: at the last that has one", turner.cue(), 1200);
        turner.heard(53, 1600);
        Check.same("17: none behind it", turner.cue(), NONE);
        turner.back();
        Check.same("17: at the last again", turner.cue(), 1200);
        turner.again();
        Check.same("17: no anchor again", turner.cue(), NONE);
        PageTurner last = Check.playing("c4:1 !d4:1 |");
        last.heard(48, 0);
        Check.same("17: at the last event", last.cue(), 500);
        PageTurner without = Check.playing("c4:1 d4:1 |");
        without.heard(48, 0);
        Check.same("17: no cue at all", without.cue(), NONE);
    }

    /** 18: "it is not 0 to 60000" */
    private static void noSuchLead() {
        PageTurner turner = playedTune();
        String before = Shot.ofAll(turner);
        for (int v : new int[] {-1, 60001, LEAST, MOST}) {
            Check.illegal("18: lead(" + v + ")", () -> turner.lead(v));
        }
        Check.same("18: nothing changes", Shot.ofAll(turner), before);
        long turn = turner.turnsAt();
        Check.same("18: lead(60000)", turner.lead(60000), 1000);
        Check.same("18: the page turns by it", turner.turnsAt(), turn - 59000);
        Check.same("18: lead(0)", turner.lead(0), 60000);
        Check.same("18: and by this one", turner.turnsAt(), turn + 1000);
        Check.same("18: lead(1)", turner.lead(1), 0);
    }

    private static void musicAndTape() {
        noMusic();
        theTapeIsFull();
        theHighestFirst();
        noFault();
        anotherWhatOfFault();
        anotherWhatOfCount();
        behindIt();
        noSuchEventOrWhat();
    }

    private static void notes() {
        costsStay();
        noSuchPrice();
        nothingToHear();
        fourHundred();
        tooEarly();
        noSuchNoteOrTime();
        noneToTakeBack();
        nothingIsHeard();
    }

    private static void places() {
        noPlace();
        likeCosts();
        noWay();
        noSuchPlace();
        noOtherMeasure();
        sureWithoutMusic();
    }

    private static void times() {
        theFourthAhead();
        fiveHundredByOne();
        oneAnchorOnceMore();
        lowestTerms();
        noTime();
        noSuchBeat();
        cutDown();
        noTurn();
        noCue();
        noSuchLead();
    }

    public static void main(String[] args) {
        musicAndTape();
        notes();
        places();
        times();
        Check.finish();
    }
}
