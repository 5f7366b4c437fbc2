/** The sentences of promise 3, and of the texts, that name a boundary: a test of its own for each. */
public final class TextEdgesTest {
    private static final int NONE = PageTurner.NONE;
    private static final String TUNE = "@c4:1 | !(d4 e4):2 :| % r:1 |";

    private static void taken(String text) {
        PageTurner turner = new PageTurner();
        Check.same("music(" + text + ")", Check.music(turner, text), 0);
        Check.same("fault(0) of " + text, turner.fault(0), 0);
        Check.same("fault(1) of " + text, turner.fault(1), NONE);
    }

    private static void refused(String text, int fault, int place) {
        PageTurner turner = new PageTurner();
        Check.same("music(" + text + ")", Check.music(turner, text), fault);
        Check.same("fault(0) of " + text, turner.fault(0), fault);
        Check.same("fault(1) of " + text, turner.fault(1), place);
        Check.same("events of " + text, turner.count(0), 0);
    }

    private static PageTurner playedTune() {
        PageTurner turner = Check.playing(TUNE);
        turner.heard(48, 100);
        turner.heard(52, 700);
        return turner;
    }

    /** "the music ahead stays, and what was heard" */
    private static void theMusicAheadStays() {
        String[] faulty = {"c4:1 d4:1 e4:1 f4:1 | % g4", "a4:2 b4:7 | r:0 |", "!f4:3 @r:1 :| % (c4 d4 c4):1 |", "|"};
        int[] faults = {1, 2, 3, 1};
        for (int i = 0; i < faulty.length; i++) {
            PageTurner turner = playedTune();
            turner.price(0, 11);
            turner.lead(77);
            String before = Shot.ofMusic(turner);
            Check.same("3: " + faulty[i], Check.music(turner, faulty[i]), faults[i]);
            Check.same("3: " + faulty[i], Shot.ofMusic(turner), before);
            Check.same("3: too early as before", turner.heard(48, 699), NONE);
            Check.same("3: heard on", turner.heard(50, 800), 1);
            Check.same("3: through all that was heard", turner.place(2), 0);
            Check.same("3: taken back", turner.back(), 2);
            Check.same("3: as before", Shot.ofMusic(turner), before);
        }
        PageTurner none = new PageTurner();
        Check.same("3: a fault without music ahead", Check.music(none, "c4:1 | d4:0 |"), 2);
        Check.same("3: there is none behind it", none.count(0), 0);
    }

    /** "the tape has not so many, n below 0 (nothing changes)" */
    private static void theTapeHasNotSoMany() {
        int[] wrong = {-1, 21, 40, 2400, 2401, Integer.MIN_VALUE, Integer.MAX_VALUE};
        PageTurner turner = playedTune();
        Check.same("3: a fault that stays", Check.music(turner, "c4:1 | (d4 d4):1 |"), 3);
        Check.feed(turner, "c4:1 | d4:1 |      |");
        String before = Shot.ofAll(turner);
        for (int n : wrong) {
            Check.illegal("3: music(" + n + ")", () -> turner.music(n));
        }
        Check.same("3: nothing changes", Shot.ofAll(turner), before);
        Check.same("3: the last byte that it has", turner.music(20), 1);
        Check.same("3: is its fault", turner.fault(1), 19);
        PageTurner empty = new PageTurner();
        Check.illegal("3: music(1) of an empty tape", () -> empty.music(1));
        Check.illegal("3: music(-1) of an empty tape", () -> empty.music(-1));
        Check.same("3: music(0) of an empty tape", empty.music(0), 0);
        Check.feed(empty, "c4:1 |");
        Check.same("3: music(0)", empty.music(0), 0);
        Check.same("3: the tape is empty then", empty.count(6), 0);
        Check.illegal("3: music(6) then", () -> empty.music(6));
    }

    /** "With 0 nothing is heard." */
    private static void nothingIsHeard() {
        PageTurner turner = playedTune();
        Check.same("3: the same music", Check.music(turner, TUNE), 0);
        Check.same("3: as new", Shot.ofAll(turner), Shot.ofAll(Check.playing(TUNE)));
        Check.same("3: none to take back", turner.back(), NONE);
        Check.same("3: at an earlier time", turner.heard(48, 0), 0);
    }

    /** "The tape's first n bytes (it is empty then) are the music": nothing of an earlier text is left */
    private static void asInANewObject() {
        String[] texts = {"(c4 d4 e4 f4):9 | @!r:7 |: ", "c4:1 | @!d4:2 :|", "c4:1 | |: d4:1 |", "(c4 d4", "@!",
            "|: c4:1 | r:1 | % !~e4:3 | % (c4):2 |", "|: r:1 | |:", "c4:1 :| d4:1 e4:1 :| %", "~", "r:5 |", "", "@c4:1 |"};
        PageTurner turner = new PageTurner();
        for (String text : texts) {
            PageTurner fresh = new PageTurner();
            int due = Check.music(fresh, text);
            Check.same("3: music(" + text + ") once more", Check.music(turner, text), due);
            if (due == 0) {
                Check.same("3: of " + text, Shot.ofAll(turner), Shot.ofAll(fresh));
                Check.same("3: heard", turner.heard(50, 5), fresh.heard(50, 5));
                Check.same("3: heard twice", turner.heard(48, 9), fresh.heard(48, 9));
                Check.same("3: costs of " + text, Shot.ofAll(turner), Shot.ofAll(fresh));
            }
        }
    }

    /** "FAULTS, the first along the text" */
    private static void theFirstAlongTheText() {
        refused("c4:1 ) c4:0 (d4d4):1 |", 1, 5);
        refused("c4:1 ) (d4d4):1 c4:0 |", 1, 5);
        refused("c4:0 ) (d4d4):1 |", 2, 3);
        refused("c4:0 (d4d4):1 ) |", 2, 3);
        refused("(d4d4):1 c4:0 ) |", 3, 3);
        refused("(d4d4):1 ) c4:0 |", 3, 3);
        refused("c4:0 c4:0 |", 2, 3);
        refused("(d4d4):1 (e4e4):1 |", 3, 3);
        refused("c4:1 | | |", 1, 7);
        refused("c4:0", 2, 3);
        refused("(d4d4", 3, 3);
        refused("c4:1 ( | c4", 1, 7);
        refused("@".repeat(2) + "@c4:1 ".repeat(11) + "|", 1, 1);
    }

    /** "a NUMBER of 4 digits or more, or 0" */
    private static void numbers() {
        String[] good = {"1", "9", "01", "001", "10", "010", "99", "100", "998", "999"};
        for (String number : good) {
            taken("c4:" + number + "|");
            taken("r: " + number + " |");
            int due = Integer.parseInt(number);
            Check.same("3: its value, " + number, Check.playing("c4:" + number + "|").event(0, 3), due);
        }
        String[] bad = {"0", "00", "000", "0000", "0001", "0999", "1000", "9999", "10000", "2147483648", "4294967297"};
        for (String number : bad) {
            refused("c4:" + number + "|", 2, 3);
            refused("c4:1 r: " + number + " |", 2, 8);
            refused("c4:" + number, 2, 3);
            refused(number + "|", 1, 0);
        }
        refused("c4:999", 1, 6);
        refused("c4:99 9|", 1, 6);
        refused("c4:1000x|", 2, 3);
    }

    /** "the first TOKEN of the 101st EVENT" */
    private static void the101stEvent() {
        String[] events = {"c4:1", "(c4 d4):1", "~ c4:1", "r:1"};
        for (String event : events) {
            String hundred = (event + " ").repeat(100);
            taken(hundred + "|");
            Check.same("3: a hundred", Check.playing(hundred + "|%").count(0), 100);
            refused(hundred + event + " |", 2, hundred.length());
            refused(hundred + "| " + event + " |", 2, hundred.length() + 2);
            refused(hundred + ":| % |: @ ! " + event + " |", 2, hundred.length() + 12);
            refused(hundred, 1, hundred.length());
        }
        String hundred = "r:1|".repeat(100);
        refused(hundred + "c4", 2, 400);
        refused(hundred + "~", 2, 400);
        refused(hundred + "(", 2, 400);
        refused(hundred + "r", 2, 400);
        refused(hundred + "c", 1, 400);
        refused(hundred + "|:", 1, 402);
        refused(hundred + "@", 1, 401);
        refused(hundred + "!:", 1, 401);
    }

    /** "the 101st EVENT": of the text, not of all texts */
    private static void eventsAreCountedAnew() {
        String hundred = "r:1|".repeat(100);
        PageTurner turner = new PageTurner();
        for (int i = 0; i < 3; i++) {
            Check.same("3: a hundred", Check.music(turner, hundred), 0);
            Check.same("3: not a hundred and one", Check.music(turner, hundred + "r:1|"), 2);
            Check.same("3: at its place", turner.fault(1), 400);
            Check.same("3: there are", turner.count(0), 100);
            Check.same("3: beats", turner.count(3), 100);
        }
    }

    /** "the 5th PITCH of a CHORD" */
    private static void the5thPitch() {
        taken("(c4 d4 e4 f4):1|");
        taken("(c4 d4 e4 f4):1 (c4 d4 e4 f4):1|");
        Check.same("3: four pitches", Check.playing("(c4d4e4f4):1|").event(0, 1), 4);
        refused("(c4 d4 e4 f4 g4):1|", 2, 13);
        refused("(c4 d4 e4 f4 g4 a4):1|", 2, 13);
        refused("(c4 d4 e4 f4 g4", 2, 13);
        refused("(c4 d4 e4 f4 c4):1|", 2, 13);
        refused("(c4 d4 e4 f4 g:1|", 1, 13);
        refused("(c4 d4 e4 f4 r):1|", 1, 13);
        refused("(c4):1 (c4 d4 e4 f4 g4):1|", 2, 20);
    }

    private static void counted(String sign, int most) {
        String text = (sign + "r:1 ").repeat(most);
        int end = text.length();
        taken(text + "|");
        taken(text + "r:1 |");
        refused(text + sign + "r:1 |", 2, end);
        refused(text + "| % " + sign + "r:1 |", 2, end + 4);
        refused(text + sign, 2, end);
        refused(text + sign + sign, 2, end);
        refused((sign + "r:1 ").repeat(most - 1) + sign + sign + "r:1 |", 1, end - 4);
        PageTurner turner = new PageTurner();
        for (int i = 0; i < 3; i++) {
            Check.same("3: counted anew behind sound music", Check.music(turner, text + "|"), 0);
            Check.same("3: and behind a fault", Check.music(turner, text + sign + "r:1 |"), 2);
        }
    }

    /** "the 11th @" */
    private static void the11thMark() {
        counted("@", 10);
        refused("@r:1 ".repeat(10) + "!@r:1 |", 1, 51);
        Check.same("3: the tenth is one", Check.playing("@r:1 ".repeat(10) + "|").event(9, 6), 1);
    }

    /** "the 21st !" */
    private static void the21stCue() {
        counted("!", 20);
        refused("@!r:1 ".repeat(10) + "!r:1 ".repeat(10) + "!r:1 |", 2, 110);
        Check.same("3: the twentieth is one", Check.playing("!r:1 ".repeat(20) + "|").event(19, 7), 1);
        Check.same("3: twenty", Check.playing("!r:1 ".repeat(20) + "|").count(7), 20);
    }

    /** "a PITCH of a CHORD whose number is in it already" */
    private static void inItAlready() {
        refused("(c4 c4):1|", 3, 4);
        refused("(c4 d4 c4):1|", 3, 7);
        refused("(c4 d4 e4 c4):1|", 3, 10);
        refused("(c4 d4 e4 e4):1|", 3, 10);
        refused("(c4 d4 d4 c4 e4):1|", 3, 7);
        refused("(b+3 c4):1|", 3, 5);
        refused("(b3 c-4):1|", 3, 4);
        refused("(e+4 f4):1|", 3, 5);
        refused("(c+4 d-4):1|", 3, 5);
        refused("(c4 c4", 3, 4);
        taken("(c4 c+4 c-4 c5):1|");
        taken("(c4):1 c4:1 ~c4:1 (c4):1|");
        taken("(c4 d4):1 (d4 c4):1|");
    }

    /** "(the text's length where it ends too soon)" */
    private static void endsTooSoon() {
        String text = "|:@!(c4 d4):12 ~e4:7 r:1 f+4:2:|%";
        int[] whole = {0, text.length() - 1, text.length()};
        int[] halfPitches = {6, 9, 17, 26, 27};
        int[] starts = {5, 8, 16, 25, 25};
        int lastBar = text.length() - 2;
        for (int n = 0; n <= text.length(); n++) {
            PageTurner turner = new PageTurner();
            Check.feed(turner, text);
            boolean sound = n == whole[0] || n == whole[1] || n == whole[2];
            // one byte alone of each two-byte bar is another token
            int due = n == 1 ? 0 : n == lastBar ? lastBar - 1 : n;
            for (int i = 0; i < halfPitches.length; i++) {
                due = n == halfPitches[i] ? starts[i] : due;
            }
            Check.same("3: the first " + n + " of " + text, turner.music(n), sound ? 0 : 1);
            Check.same("3: the place in the first " + n, turner.fault(1), sound ? NONE : due);
        }
        refused("c4:1    ", 1, 8);
        refused("c4:1 \n\n", 1, 7);
        refused("c4:1 | d4:1" + " ".repeat(2389), 1, 2400);
        taken("c4:1 | d4:1" + " ".repeat(2388) + "|");
    }

    /** "A PITCH without its digit is no TOKEN." */
    private static void pitchesWithoutADigit() {
        taken("c0:1 c8:1|");
        taken("c-0:1 b+8:1|");
        refused("c9:1|", 1, 0);
        refused("c+9:1|", 1, 0);
        refused("c:1|", 1, 0);
        refused("(c4 d):1|", 1, 4);
        refused("h4:1|", 1, 0);
        taken("a4:1 g4:1|");
        Check.same("3: the least number", Check.playing("c-0:1|").event(0, 9), -1);
        Check.same("3: the greatest number", Check.playing("b+8:1|").event(0, 9), 108);
    }

    private static String sign(int number) {
        return "" + (char) number;
    }

    /** "a digit 0 to 8 (nothing between these)" */
    private static void everyByteAsADigit() {
        for (int number = 0; number < 256; number++) {
            if (number >= '0' && number <= '8') {
                taken("c" + sign(number) + ":1|");
                taken("c-" + sign(number) + ":1|");
            } else {
                refused("c" + sign(number) + ":1|", 1, 0);
                refused("c-" + sign(number) + ":1|", 1, 0);
                refused("c" + sign(number) + "x4:1|", 1, 0);
            }
        }
    }

    /** "a TOKEN that can't stand there, or is none" */
    private static void everyByteBehindABar() {
        String fits = " \n%@!";
        String opens = "(~r";
        for (int number = 0; number < 256; number++) {
            String text = "r:1| " + sign(number) + "r:1|";
            if (fits.indexOf(number) >= 0) {
                taken(text);
            } else {
                refused(text, 1, opens.indexOf(number) >= 0 ? 6 : 5);
            }
        }
    }

    /** "at most 2400 bytes" */
    private static void theLongestText() {
        taken("c4:1" + " ".repeat(2395) + "|");
        refused("c4:1|" + " ".repeat(2394) + "|", 1, 2399);
    }

    public static void main(String[] args) {
        theMusicAheadStays();
        theTapeHasNotSoMany();
        nothingIsHeard();
        asInANewObject();
        theFirstAlongTheText();
        numbers();
        the101stEvent();
        eventsAreCountedAnew();
        the5thPitch();
        the11thMark();
        the21stCue();
        inItAlready();
        endsTooSoon();
        pitchesWithoutADigit();
        everyByteAsADigit();
        everyByteBehindABar();
        theLongestText();
        Check.finish();
    }
}
