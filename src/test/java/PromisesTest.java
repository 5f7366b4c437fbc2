/** The promises 1 to 18, one after the other: ordinary inputs, edges and wrong inputs. */
public final class PromisesTest {
    private static final String TUNE = "@c4:1 d4:1 | |: (e4 g4):2 !~a4:2 :| % r:1 c5:3 |";
    private static final int NONE = PageTurner.NONE;

    private static void aNewObject() {
        PageTurner turner = new PageTurner();
        for (int what = 0; what <= 7; what++) {
            Check.same("1: count(" + what + ")", turner.count(what), 0);
        }
        Check.same("1: fault(0)", turner.fault(0), 0);
        Check.same("1: fault(1)", turner.fault(1), NONE);
        Check.noSuch("1: event(0, 0)", () -> turner.event(0, 0));
        Check.noSuch("1: place(0)", () -> turner.place(0));
        Check.noSuch("1: cost(0, 0)", () -> turner.cost(0, 0));
        Check.noSuch("1: sure()", () -> turner.sure());
        Check.same("1: heard(60, 0)", turner.heard(60, 0), NONE);
        Check.same("1: back()", turner.back(), NONE);
        Check.same("1: again()", turner.again(), 0);
        Check.same("1: tempo(false)", turner.tempo(false), 500);
        Check.same("1: tempo(true)", turner.tempo(true), 1);
        Check.same("1: time(0)", turner.time(0), NONE);
        Check.same("1: turnsAt()", turner.turnsAt(), NONE);
        Check.same("1: cue()", turner.cue(), NONE);
        int[] prices = {3, 2, 2, 6};
        for (int what = 0; what < 4; what++) {
            Check.same("1: price(" + what + ")", turner.price(what, 7), prices[what]);
        }
        Check.same("1: lead(1)", turner.lead(1), 1000);
    }

    private static void feed() {
        PageTurner turner = new PageTurner();
        for (int i = 1; i <= 120; i++) {
            Check.same("2: feed " + i, turner.feed(-1, 0, 1, 2, 3), 20L * i);
        }
        Check.same("2: feed beyond", turner.feed(0, 0, 0, 0, 0), NONE);
        Check.same("2: the tape then", turner.count(6), 2400);
        Check.same("2: music", turner.music(2400), 1);
        Check.same("2: the tape is empty", turner.count(6), 0);
        // "c4:1" "|   ", the highest byte first
        Check.same("2: feed anew", turner.feed(0x63343A31, 0x7C202020, 0x20202020, 0x20202020, 0x20202020), 20);
        Check.same("2: its order", turner.music(5), 0);
        Check.same("2: its pitch", turner.event(0, 9), 48);
    }

    private static void music() {
        PageTurner turner = Check.playing(TUNE);
        turner.heard(48, 100);
        Check.feed(turner, "c4:1 | d4:1 | e");
        Check.illegal("3: n below 0", () -> turner.music(-1));
        Check.illegal("3: n above the tape", () -> turner.music(21));
        Check.illegal("3: n far above", () -> turner.music(Integer.MAX_VALUE));
        Check.illegal("3: n far below", () -> turner.music(Integer.MIN_VALUE));
        Check.same("3: the tape stays", turner.count(6), 20);
        Check.same("3: the latest fault stays", turner.fault(1), NONE);
        Check.same("3: a fault", turner.music(15), 1);
        Check.same("3: the tape is empty", turner.count(6), 0);
        Check.same("3: the music stays", turner.count(0), 6);
        Check.same("3: what was heard stays", turner.count(4), 1);
        Check.same("3: the cost stays", turner.cost(0, 1), 0);
        Check.feed(turner, "c4:1 | d4:1 | e");
        Check.same("3: the first bytes alone", turner.music(13), 0);
        Check.same("3: the tape is empty again", turner.count(6), 0);
        Check.same("3: new music", turner.count(0), 2);
        Check.same("3: nothing is heard", turner.count(4), 0);
        Check.same("3: no anchors", turner.count(5), 0);
        Check.same("3: its first place", turner.cost(0, 0), 0);
        Check.same("3: no other place", turner.cost(0, 1), NONE);
        turner.heard(48, 5);
        Check.same("3: no bytes are no music", turner.music(0), 0);
        Check.same("3: no events", turner.count(0), 0);
        Check.same("3: no notes", turner.count(4), 0);
        Check.same("3: nothing can be heard", turner.heard(48, 5), NONE);
    }

    private static void fault() {
        PageTurner turner = new PageTurner();
        Check.same("4: music", Check.music(turner, "c4:1 (c4 c4):1 |"), 3);
        Check.same("4: fault", turner.fault(0), 3);
        Check.same("4: place", turner.fault(1), 9);
        Check.noSuch("4: fault(2)", () -> turner.fault(2));
        Check.noSuch("4: fault(-1)", () -> turner.fault(-1));
        Check.same("4: sound", Check.music(turner, "c4:1 |"), 0);
        Check.same("4: no fault", turner.fault(0), 0);
        Check.same("4: no place", turner.fault(1), NONE);
    }

    private static void count() {
        PageTurner turner = Check.playing(TUNE);
        int[] due = {6, 3, 2, 10, 0, 0, 0, 1};
        for (int what = 0; what < due.length; what++) {
            Check.same("5: count(" + what + ")", turner.count(what), due[what]);
        }
        turner.heard(48, 0);
        turner.heard(48, 0);
        turner.heard(50, 1);
        Check.same("5: notes", turner.count(4), 3);
        Check.same("5: anchors", turner.count(5), 2);
        turner.feed(0, 0, 0, 0, 0);
        Check.same("5: bytes", turner.count(6), 20);
        Check.noSuch("5: count(8)", () -> turner.count(8));
        Check.noSuch("5: count(-1)", () -> turner.count(-1));
    }

    private static void event() {
        PageTurner turner = Check.playing(TUNE);
        int[][] due = {
            {0, 1, 0, 1, 0, 0, 1, 0, NONE, 48},
            {0, 1, 1, 1, 0, 0, 0, 0, NONE, 50},
            {1, 2, 2, 2, 1, 0, 0, 0, NONE, 52, 55},
            {2, 1, 4, 2, 1, 0, 0, 1, 2, 57},
            {3, 0, 6, 1, 2, 1, 0, 0, NONE},
            {0, 1, 7, 3, 2, 1, 0, 0, NONE, 60},
        };
        for (int i = 0; i < due.length; i++) {
            int event = i;
            int end = due[i].length;
            for (int what = 0; what < end; what++) {
                Check.same("6: event(" + i + ", " + what + ")", turner.event(i, what), due[i][what]);
            }
            Check.noSuch("6: event(" + i + ", " + end + ")", () -> turner.event(event, end));
            Check.noSuch("6: event(" + i + ", -1)", () -> turner.event(event, -1));
            Check.noSuch("6: event(" + i + ", most)", () -> turner.event(event, Integer.MAX_VALUE));
        }
        Check.noSuch("6: event(6, 0)", () -> turner.event(6, 0));
        Check.noSuch("6: event(-1, 0)", () -> turner.event(-1, 0));
        Check.noSuch("6: event(most, 0)", () -> turner.event(Integer.MAX_VALUE, 0));
        Check.same("6: the order told", Check.playing("(g4 c4 e4):1|").event(0, 9), 55);
    }

    private static void price() {
        PageTurner turner = Check.playing("c4:1 d4:1 | e4:1 |");
        turner.heard(52, 0);
        Check.same("7: the wrong one ahead", turner.cost(0, 1), 3);
        Check.same("7: the added one ahead", turner.cost(0, 0), 2);
        Check.same("7: the left ones ahead", turner.cost(2, 1), 4);
        Check.same("7: WRONG", turner.price(0, 50), 3);
        Check.same("7: ADDED", turner.price(1, 0), 2);
        Check.same("7: LEFT", turner.price(2, 10), 2);
        Check.same("7: costs of now stay", turner.cost(0, 1), 3);
        Check.same("7: again", turner.price(0, 49), 50);
        turner.heard(52, 0);
        Check.same("7: notes to come, ADDED", turner.cost(0, 0), 2);
        // from the wrong d, 5, on to the e at no cost; from the c that was added, 2, past two for 10 each
        Check.same("7: notes to come, LEFT", turner.cost(2, 0), 5);
        Check.same("7: notes to come, LEFT or ADDED", turner.cost(2, 1), 4);
        turner.again();
        turner.heard(52, 0);
        Check.same("7: LEFT alone", turner.cost(2, 1), 20);
        Check.same("7: WRONG alone", turner.cost(0, 1), 49);
        turner.back();
        turner.again();
        Check.same("7: prices stay", turner.price(1, 50), 0);
        Check.illegal("7: price(4, 0)", () -> turner.price(4, 0));
        Check.illegal("7: price(-1, 0)", () -> turner.price(-1, 0));
        Check.illegal("7: price(0, 51)", () -> turner.price(0, 51));
        Check.illegal("7: price(0, -1)", () -> turner.price(0, -1));
        Check.same("7: nothing changed", turner.price(0, 0), 49);
    }

    private static void heard() {
        PageTurner turner = Check.playing("c4:1 d4:1 (e4 g4):1 |");
        Check.illegal("8: note 128", () -> turner.heard(128, 0));
        Check.illegal("8: note -1", () -> turner.heard(-1, 0));
        Check.illegal("8: time -1", () -> turner.heard(0, -1));
        Check.illegal("8: time beyond", () -> turner.heard(0, 100000001));
        Check.same("8: nothing was heard", turner.count(4), 0);
        Check.same("8: c", turner.heard(48, 10), 0);
        Check.same("8: too early", turner.heard(50, 9), NONE);
        Check.same("8: nothing changed", turner.count(4), 1);
        Check.same("8: at the same time", turner.heard(50, 10), 1);
        Check.same("8: the upper one first", turner.heard(55, 100000000), 2);
        Check.same("8: its bit", turner.place(1), 2);
        Check.same("8: then the lower one", turner.heard(52, 100000000), 2);
        Check.same("8: both bits", turner.place(1), 3);
        PageTurner busy = Check.playing("c4:1|");
        for (int i = 0; i < 400; i++) {
            busy.heard(127, i);
        }
        Check.same("8: 400 were heard", busy.count(4), 400);
        Check.same("8: one more", busy.heard(48, 1000), NONE);
        Check.illegal("8: one more that is none", () -> busy.heard(128, 1000));
        Check.same("8: cost of 400", busy.place(2), 800);
        Check.same("8: back", busy.back(), 399);
        Check.same("8: room for one", busy.heard(48, 1000), 0);
        Check.illegal("8: without music", () -> new PageTurner().heard(128, 0));
    }

    private static void ways() {
        PageTurner ornament = Check.playing("~c4:1 d4:1 |");
        Check.same("8: not near", ornament.heard(50, 0), 0);
        Check.same("8: added", ornament.place(1), 0);
        ornament.again();
        ornament.heard(49, 0);
        ornament.heard(47, 0);
        ornament.heard(48, 0);
        Check.same("8: an ornament is heard as often as one likes", ornament.cost(0, 1), 0);
        ornament.heard(46, 0);
        Check.same("8: but not that", ornament.cost(0, 1), 2);
        PageTurner marked = Check.playing("c4:1 d4:1 @g4:1 |");
        marked.price(3, 1);
        Check.same("8: a jump ahead", marked.heard(55, 0), 2);
        Check.same("8: its cost", marked.place(2), 1);
        Check.same("8: a jump to where it is", marked.heard(55, 0), 2);
        Check.same("8: its cost, too", marked.place(2), 2);
        PageTurner rests = Check.playing("r:1 r:1 c4:1 |");
        Check.same("8: rests cost nothing", rests.heard(48, 0), 2);
        Check.same("8: at no cost", rests.place(2), 0);
        Check.same("8: a rest alone", rests.cost(0, 0), 2);
        PageTurner repeat = Check.playing("c4:1 | |: d4:1 e4:1 :| f4:1 |");
        int[] notes = {48, 50, 52, 50, 52, 50, 52, 53};
        int[] places = {0, 1, 2, 1, 2, 1, 2, 3};
        for (int i = 0; i < notes.length; i++) {
            Check.same("8: repeat " + i, repeat.heard(notes[i], i), places[i]);
        }
        Check.same("8: a repeat costs nothing", repeat.place(2), 0);
        PageTurner low = Check.playing("(g4 c4 e4):1 |");
        low.heard(52, 0);
        Check.same("8: the note's bit", low.cost(0, 4), 0);
        Check.same("8: the lowest bit for a wrong one", low.cost(0, 1), 3);
        Check.same("8: no way to another bit", low.cost(0, 2), NONE);
        low.heard(20, 0);
        Check.same("8: the lowest that wasn't heard", low.cost(0, 5), 3);
    }

    private static void back() {
        PageTurner turner = Check.playing("c4:1 d4:1 e4:1 | |: f4:1 :|");
        turner.heard(48, 0);
        turner.heard(50, 10);
        turner.heard(52, 20);
        Check.same("9: anchors", turner.count(5), 3);
        turner.price(3, 50);
        turner.price(2, 50);
        turner.price(1, 50);
        turner.price(0, 0);
        Check.same("9: wrong", turner.heard(50, 30), 3);
        Check.same("9: left", turner.back(), 3);
        Check.same("9: place", turner.place(0), 2);
        Check.same("9: cost", turner.cost(2, 1), 0);
        Check.same("9: tempo", turner.tempo(false), 10);
        Check.same("9: earlier than what was taken back", turner.heard(52, 20), 3);
        for (int left = 3; left >= 0; left--) {
            Check.same("9: left", turner.back(), left);
        }
        Check.same("9: none", turner.back(), NONE);
        Check.same("9: still none", turner.count(4), 0);
        Check.same("9: no anchors", turner.count(5), 0);
        Check.same("9: the first place", turner.cost(0, 0), 0);
        Check.same("9: no other", turner.cost(1, 0), NONE);
        Check.same("9: any time", turner.heard(48, 0), 0);
        PageTurner jumping = Check.playing("@c4:1 d4:1 e4:1 f4:1 |");
        int[] notes = {48, 50, 52};
        for (int i = 0; i < notes.length; i++) {
            jumping.heard(notes[i], 7 * i);
        }
        jumping.price(3, 0);
        Check.same("9: a jump back", jumping.heard(48, 30), 0);
        Check.same("9: the anchors are gone", jumping.count(5), 1);
        jumping.back();
        Check.same("9: they are there again", jumping.count(5), 3);
        Check.same("9: and the tempo", jumping.tempo(false), 7);
    }

    private static void again() {
        PageTurner turner = Check.playing(TUNE);
        turner.heard(48, 100);
        turner.heard(50, 200);
        turner.price(0, 9);
        turner.lead(5);
        Check.same("10: notes", turner.again(), 2);
        Check.same("10: none", turner.again(), 0);
        Check.same("10: count", turner.count(4), 0);
        Check.same("10: anchors", turner.count(5), 0);
        Check.same("10: place", turner.place(0), 0);
        Check.same("10: bits", turner.place(1), 0);
        Check.same("10: cost", turner.cost(1, 1), NONE);
        Check.same("10: back", turner.back(), NONE);
        Check.same("10: prices stay", turner.price(0, 9), 9);
        Check.same("10: the lead stays", turner.lead(5), 5);
        Check.same("10: the music stays", turner.count(0), 6);
        Check.same("10: an earlier time", turner.heard(48, 0), 0);
    }

    private static void place() {
        PageTurner turner = Check.playing("r:1 | c4:1 | % d4:1 | e4:1 |");
        for (int what = 0; what <= 4; what++) {
            Check.same("11: at first, place(" + what + ")", turner.place(what), 0);
        }
        turner.heard(50, 0);
        // the note as an added one costs 2 at event 0, and leaving event 1 out costs 2 as well
        int[] like = {0, 0, 2, 0, 0};
        for (int what = 0; what <= 4; what++) {
            Check.same("11: place(" + what + ")", turner.place(what), like[what]);
        }
        turner.price(2, 0);
        turner.again();
        turner.heard(50, 0);
        int[] due = {2, 1, 0, 2, 1};
        for (int what = 0; what <= 4; what++) {
            Check.same("11: with LEFT 0, place(" + what + ")", turner.place(what), due[what]);
        }
        Check.noSuch("11: place(5)", () -> turner.place(5));
        Check.noSuch("11: place(-1)", () -> turner.place(-1));
    }

    private static void likeCosts() {
        PageTurner turner = Check.playing("(c4 d4):1 | c4:1 |");
        turner.price(0, 2);
        turner.heard(60, 0);
        Check.same("11: like ones, bits 0", turner.cost(0, 0), 2);
        Check.same("11: like ones, bits 1", turner.cost(0, 1), 2);
        Check.same("11: the least bits", turner.place(1), 0);
        turner.price(2, 0);
        turner.again();
        turner.heard(60, 0);
        Check.same("11: like ones, event 1", turner.cost(1, 0), 2);
        Check.same("11: the least event", turner.place(0), 0);
    }

    private static void cost() {
        PageTurner turner = Check.playing("r:1 (c4 e4 g4 b4):1 ~c4:1 c4:1 |");
        Check.same("12: first", turner.cost(0, 0), 0);
        Check.same("12: no way", turner.cost(1, 0), NONE);
        turner.heard(55, 0);
        Check.same("12: added at the rest", turner.cost(0, 0), 2);
        Check.same("12: added at the chord", turner.cost(1, 0), 2);
        Check.same("12: right", turner.cost(1, 4), 0);
        Check.same("12: wrong", turner.cost(1, 1), 3);
        Check.same("12: no way to all", turner.cost(1, 15), NONE);
        Check.same("12: the chord left", turner.cost(2, 0), 10);
        Check.same("12: and wrong", turner.cost(2, 1), 11);
        Check.same("12: the ornament left, too", turner.cost(3, 1), 13);
        Check.noSuch("12: a rest has no bits", () -> turner.cost(0, 1));
        Check.noSuch("12: a chord of four", () -> turner.cost(1, 16));
        Check.noSuch("12: an ornament", () -> turner.cost(2, 2));
        Check.noSuch("12: a note", () -> turner.cost(3, 2));
        Check.noSuch("12: bits below 0", () -> turner.cost(3, -1));
        Check.noSuch("12: no such event", () -> turner.cost(4, 0));
        Check.noSuch("12: an event below 0", () -> turner.cost(-1, 0));
        Check.noSuch("12: the most bits", () -> turner.cost(0, Integer.MAX_VALUE));
    }

    private static void sure() {
        PageTurner turner = Check.playing("c4:1 d4:1 | e4:1 |");
        Check.same("13: no other place", turner.sure(), NONE);
        turner.heard(48, 0);
        Check.same("13: after c", turner.sure(), 6);
        turner.heard(50, 0);
        Check.same("13: after d", turner.sure(), 4);
        turner.heard(52, 0);
        Check.same("13: after e", turner.sure(), 2);
        PageTurner alone = Check.playing("c4:1 d4:1 |");
        alone.heard(48, 0);
        Check.same("13: one measure", alone.sure(), NONE);
        Check.noSuch("13: no music", () -> new PageTurner().sure());
    }

    private static void tempo() {
        PageTurner turner = Check.playing("c4:2 d4:4 e4:1 f4:1 g4:1 a4:1 b4:1 |");
        turner.heard(48, 1000);
        Check.same("14: one anchor", turner.tempo(false), 500);
        Check.same("14: one anchor, below", turner.tempo(true), 1);
        turner.heard(50, 1300);
        Check.same("14: 300 by 2", turner.tempo(false), 150);
        Check.same("14: 300 by 2, below", turner.tempo(true), 1);
        turner.heard(50, 1301);
        Check.same("14: no anchor", turner.count(5), 2);
        turner.heard(52, 1701);
        Check.same("14: 701 by 6", turner.tempo(false), 701);
        Check.same("14: 701 by 6, below", turner.tempo(true), 6);
        turner.heard(53, 2000);
        turner.heard(55, 2100);
        Check.same("14: 1100 by 8", turner.tempo(false), 275);
        Check.same("14: 1100 by 8, below", turner.tempo(true), 2);
        turner.heard(57, 2400);
        Check.same("14: the fourth ahead, 1100 by 7", turner.tempo(false), 1100);
        Check.same("14: the fourth ahead, below", turner.tempo(true), 7);
        Check.same("14: anchors", turner.count(5), 6);
        PageTurner quick = Check.playing("c4:2 d4:4 |");
        quick.heard(48, 7);
        quick.heard(50, 7);
        Check.same("14: at once", quick.tempo(false), 0);
        Check.same("14: at once, below", quick.tempo(true), 1);
    }

    private static void time() {
        PageTurner turner = Check.playing("c4:3 d4:1 e4:1 |");
        Check.same("15: no anchor", turner.time(0), NONE);
        Check.illegal("15: below, without an anchor", () -> turner.time(-1));
        turner.heard(48, 1000);
        Check.same("15: one anchor", turner.time(100000), 50001000);
        turner.heard(50, 1100);
        Check.same("15: its own", turner.time(3), 1100);
        Check.same("15: cut down", turner.time(4), 1133);
        Check.same("15: cut down behind", turner.time(2), 1066);
        Check.same("15: whole", turner.time(0), 1000);
        Check.illegal("15: below", () -> turner.time(-1));
        Check.illegal("15: above", () -> turner.time(100001));
        turner.again();
        turner.heard(48, 0);
        turner.heard(50, 100000000);
        Check.same("15: far ahead", turner.time(100000), 100000000L + 100000000L * 99997 / 3);
        PageTurner early = Check.playing("r:100 c4:1 |");
        early.heard(48, 5);
        Check.same("15: below 0", early.time(0), 5 - 50000);
    }

    private static void turnsAt() {
        PageTurner turner = Check.playing("c4:1 | d4:2 | % e4:3 | % f4:5 | %");
        Check.same("16: no anchor", turner.turnsAt(), NONE);
        turner.heard(48, 10000);
        Check.same("16: the first page", turner.turnsAt(), 10000 + 1500 - 1000);
        turner.lead(0);
        Check.same("16: without a lead", turner.turnsAt(), 11500);
        turner.lead(60000);
        Check.same("16: with a long one", turner.turnsAt(), 11500 - 60000);
        turner.heard(50, 10100);
        Check.same("16: by the tempo", turner.turnsAt(), 10100 + 200 - 60000);
        turner.heard(52, 10300);
        Check.same("16: the second page", turner.turnsAt(), 10300 + 300 - 60000);
        turner.heard(53, 10600);
        Check.same("16: the last page", turner.turnsAt(), NONE);
        turner.back();
        Check.same("16: back", turner.turnsAt(), 10300 + 300 - 60000);
        PageTurner alone = Check.playing("c4:1 | %");
        alone.heard(48, 0);
        Check.same("16: one page", alone.turnsAt(), NONE);
    }

    private static void cue() {
        PageTurner turner = Check.playing("c4:1 !d4:2 | !e4:3 f4:1 |");
        Check.same("17: no anchor", turner.cue(), NONE);
        turner.heard(48, 1000);
        Check.same("17: the next", turner.cue(), 1500);
        turner.heard(50, 1100);
        Check.same("17: at the place", turner.cue(), 1100);
        turner.heard(52, 1300);
        Check.same("17: the last", turner.cue(), 1300);
        turner.heard(53, 1600);
        Check.same("17: none", turner.cue(), NONE);
        PageTurner without = Check.playing("c4:1 |");
        without.heard(48, 0);
        Check.same("17: none at all", without.cue(), NONE);
    }

    private static void lead() {
        PageTurner turner = new PageTurner();
        Check.same("18: at first", turner.lead(60000), 1000);
        Check.same("18: then", turner.lead(0), 60000);
        Check.illegal("18: above", () -> turner.lead(60001));
        Check.illegal("18: below", () -> turner.lead(-1));
        Check.same("18: nothing changed", turner.lead(1), 0);
    }

    public static void main(String[] args) {
        Check.same("NONE", PageTurner.NONE, -1);
        aNewObject();
        feed();
        music();
        fault();
        count();
        event();
        price();
        heard();
        ways();
        back();
        again();
        place();
        likeCosts();
        cost();
        sure();
        tempo();
        time();
        turnsAt();
        cue();
        lead();
        Check.finish();
    }
}
