/** Terms 1: texts, their faults and what an event tells. */
public final class TextsTest {
    private static void faulty(String text, int fault, int place) {
        PageTurner turner = new PageTurner();
        Check.same("music(" + text + ")", Check.music(turner, text), fault);
        Check.same("fault(0) of " + text, turner.fault(0), fault);
        Check.same("fault(1) of " + text, turner.fault(1), place);
    }

    private static void sound(String text, int events, int measures, int pages, int beats) {
        PageTurner turner = Check.playing(text);
        Check.same("fault(0) of " + text, turner.fault(0), 0);
        Check.same("fault(1) of " + text, turner.fault(1), PageTurner.NONE);
        Check.same("events of " + text, turner.count(0), events);
        Check.same("measures of " + text, turner.count(1), measures);
        Check.same("pages of " + text, turner.count(2), pages);
        Check.same("beats of " + text, turner.count(3), beats);
    }

    private static void soundTexts() {
        sound("", 0, 0, 0, 0);
        sound(" \n \n", 0, 0, 0, 0);
        sound("c4:1|", 1, 1, 1, 1);
        sound("c4:1|%", 1, 1, 1, 1);
        sound("c4:1|%d4:2|", 2, 2, 2, 3);
        sound("c4:1 | % d4:2 :| %", 2, 2, 2, 3);
        sound("|:c4:1:||:d4:2:|", 2, 2, 1, 3);
        sound("c4:1||:d4:2|", 2, 2, 1, 3);
        sound(" c4 : 999 \n r\n:\n001 | ", 2, 1, 1, 1000);
        sound("c4:1d4:2r:3~e4:4(c4):5@f4:6!g4:7@!a4:8|", 8, 1, 1, 36);
        sound("( c4 d4 e4 f4 ) : 1 |", 1, 1, 1, 1);
        sound("@ ! ~ c+4 : 3 |", 1, 1, 1, 3);
    }

    private static void unfitTokens() {
        faulty("c:1|", 1, 0);
        faulty("c4|", 1, 2);
        faulty("c4 :|", 1, 3);
        faulty("c4:|", 1, 2);
        faulty("c9:1|", 1, 0);
        faulty("c+:1|", 1, 0);
        faulty("c 4:1|", 1, 0);
        faulty("c++4:1|", 1, 0);
        faulty("c45:1|", 1, 2);
        faulty("h4:1|", 1, 0);
        faulty("C4:1|", 1, 0);
        faulty("c4:1 x|", 1, 5);
        faulty("c4:1\t|", 1, 4);
        faulty("c4:1 " + (char) 233 + "|", 1, 5);
        faulty("c4:1 2|", 1, 5);
        faulty("c4:r|", 1, 3);
        faulty("c4:-1|", 1, 3);
        faulty("|", 1, 0);
        faulty(":|", 1, 0);
        faulty("%", 1, 0);
        faulty("|::|", 1, 2);
        faulty("|: |: c4:1|", 1, 3);
        faulty("c4:1 |: d4:1|", 1, 5);
        faulty("c4:1| :d4:1|", 1, 6);
        faulty("c4:1:|:", 1, 6);
        faulty("c4:1||", 1, 5);
        faulty("c4:1|%%", 1, 6);
        faulty("c4:1%|", 1, 4);
        faulty("@@c4:1|", 1, 1);
        faulty("!@c4:1|", 1, 1);
        faulty("!!c4:1|", 1, 1);
        faulty("@|", 1, 1);
        faulty("():1|", 1, 1);
        faulty("(c4:1|", 1, 3);
        faulty("(c4 r):1|", 1, 4);
        faulty("((c4)):1|", 1, 1);
        faulty("c4):1|", 1, 2);
        faulty("~(c4):1|", 1, 1);
        faulty("~r:1|", 1, 1);
        faulty("~~c4:1|", 1, 1);
        faulty("r4:1|", 1, 1);
        faulty("4:1|", 1, 0);
    }

    private static void textsThatEndTooSoon() {
        faulty("c4:1", 1, 4);
        faulty("c4:1 \n ", 1, 7);
        faulty("c4:", 1, 3);
        faulty("c4", 1, 2);
        faulty("c", 1, 0);
        faulty("c+", 1, 0);
        faulty("c4:1 d-", 1, 5);
        faulty("|: ", 1, 3);
        faulty("@", 1, 1);
        faulty("!", 1, 1);
        faulty("(", 1, 1);
        faulty("(c4", 1, 3);
        faulty("~", 1, 1);
        faulty("r", 1, 1);
        faulty("r:", 1, 2);
    }

    private static void tooMuch() {
        faulty("c4:0|", 2, 3);
        faulty("c4:000|", 2, 3);
        faulty("c4: 1000|", 2, 4);
        faulty("c4:0001|", 2, 3);
        faulty("c4:99999999999999|", 2, 3);
        faulty("0000 c4:1|", 1, 0);
        faulty("(c4d4e4f4g4):1|", 2, 9);
        faulty("(c4d4e4f4c4):1|", 2, 9);
        faulty("(c4d4e4f4 g):1|", 1, 10);
        sound("r:1 ".repeat(100) + "|", 100, 1, 1, 100);
        sound("r:999|".repeat(100), 100, 100, 1, 99900);
        faulty("r:1 ".repeat(100) + " r:1|", 2, 401);
        faulty("r:1|".repeat(100) + "c4:1|", 2, 400);
        faulty("r:1|".repeat(100) + "|:@!(c4):1|", 2, 404);
        faulty("r:1|".repeat(100) + "~c4:1|", 2, 400);
        faulty("r:1|".repeat(100) + "c:1|", 1, 400);
        faulty("r:1|".repeat(100) + "@!|", 1, 402);
        sound("@r:1 ".repeat(10) + "|", 10, 1, 1, 10);
        faulty("@r:1 ".repeat(10) + "@r:1|", 2, 50);
        faulty("@r:1 ".repeat(9) + "@@r:1|", 1, 46);
        sound("!r:1 ".repeat(20) + "|", 20, 1, 1, 20);
        faulty("!r:1 ".repeat(20) + "@!r:1|", 2, 101);
    }

    private static void pitchesTwice() {
        faulty("(c4 e4 c4):1|", 3, 7);
        faulty("(b+3 c4):1|", 3, 5);
        faulty("(c+4 d-4):1|", 3, 5);
        sound("(c4 c5 c+4 c-4):1|", 1, 1, 1, 1);
        sound("c4:1 c4:1|", 2, 1, 1, 2);
    }

    private static void pitchNumbers() {
        String letters = "cdefgab";
        int[] steps = {0, 2, 4, 5, 7, 9, 11};
        for (int i = 0; i < 7; i++) {
            for (int digit = 0; digit <= 8; digit++) {
                String letter = letters.substring(i, i + 1);
                PageTurner turner = Check.playing("(" + letter + digit + letter + "+" + digit + letter + "-" + digit + "):1|");
                Check.same("plain " + letter + digit, turner.event(0, 9), 12 * digit + steps[i]);
                Check.same("raised " + letter + digit, turner.event(0, 10), 12 * digit + steps[i] + 1);
                Check.same("lowered " + letter + digit, turner.event(0, 11), 12 * digit + steps[i] - 1);
            }
        }
    }

    private static void behind(String text, int... due) {
        PageTurner turner = Check.playing(text);
        Check.same("events of " + text, turner.count(0), due.length);
        for (int i = 0; i < due.length; i++) {
            Check.same("behind " + i + " of " + text, turner.event(i, 8), due[i]);
        }
    }

    private static void repeats() {
        behind("r:1|r:1|", -1, -1);
        behind("r:1:|", 0);
        behind("r:1 r:1|r:1 r:1:|", -1, -1, -1, 0);
        behind("r:1||:r:1 r:1:|", -1, -1, 1);
        behind("|:r:1|r:1:|r:1|r:1:|", -1, 0, -1, 2);
        behind("|:r:1|r:1:||:r:1:|r:1:|", -1, 0, 2, 3);
        behind("|:r:1||:r:1|r:1:|", -1, -1, 1);
        behind("|:r:1:|r:1||:r:1|r:1:|%r:1|r:1:|", 0, -1, -1, 2, -1, 4);
    }

    public static void main(String[] args) {
        soundTexts();
        unfitTokens();
        textsThatEndTooSoon();
        tooMuch();
        pitchesTwice();
        pitchNumbers();
        repeats();
        Check.finish();
    }
}
