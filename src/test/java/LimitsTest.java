import java.lang.management.ManagementFactory;

/** Runs at the document's limits: the dearest music, all notes, and what they make in memory. */
public final class LimitsTest {
    private static final String DEAREST = "@(c4d4e4f4):9 ".repeat(10) + "!(g4a4b4c5):9|"
        + "(c4d4e4f4):9|".repeat(88) + "(c5d5e5f5):9:|";

    private static long made() {
        return ((com.sun.management.ThreadMXBean) ManagementFactory.getThreadMXBean())
            .getThreadAllocatedBytes(Thread.currentThread().getId());
    }

    private static void dearestRun() {
        long before = made();
        PageTurner turner = Check.playing(DEAREST);
        Check.same("events", turner.count(0), 100);
        Check.same("beats", turner.count(3), 900);
        for (int i = 0; i < 400; i++) {
            turner.heard(48 + i % 12, i);
        }
        Check.same("notes", turner.count(4), 400);
        for (int i = 399; i >= 0; i--) {
            Check.same("back()", turner.back(), i);
        }
        for (int i = 0; i < 400; i++) {
            turner.heard(48 + i % 12, i);
        }
        long bytes = made() - before;
        // 400 rows of 1600 costs and little else; the room is 7.3 million elements for all calls of a run
        Check.same("the dearest run stays below a million elements (" + bytes + " bytes)", bytes < 4000000 ? 1 : 0, 1);
    }

    private static void costlyWays() {
        PageTurner turner = Check.playing("(c4d4e4f4):9|".repeat(100));
        for (int what = 0; what < 4; what++) {
            turner.price(what, 50);
        }
        for (int i = 0; i < 400; i++) {
            turner.heard(127, 100000000);
        }
        Check.same("400 wrong or added", turner.place(2), 20000);
        Check.same("all added, and all chords but the last left", turner.cost(99, 0), 20000);
        Check.same("all wrong, through to the end", turner.cost(99, 15), 20000);
        turner.again();
        turner.heard(127, 0);
        Check.same("99 chords left", turner.cost(99, 0), 99 * 200 + 50);
    }

    private static void smallerAndGreaterMusic() {
        PageTurner turner = Check.playing("c4:1|");
        turner.heard(48, 0);
        Check.same("greater", Check.music(turner, "(c4d4e4f4):1|"), 0);
        turner.heard(53, 0);
        Check.same("a row made anew", turner.cost(0, 8), 0);
        Check.same("smaller", Check.music(turner, "c4:1|"), 0);
        turner.heard(48, 0);
        Check.same("a row used again", turner.cost(0, 1), 0);
        Check.noSuch("no place of the music ahead", () -> turner.cost(0, 8));
    }

    private static void tapes() {
        PageTurner turner = new PageTurner();
        String text = "c4:1|" + " \n".repeat(1197) + " ";
        Check.same("2400 bytes", Check.music(turner, text), 0);
        Check.same("one event", turner.count(0), 1);
        String late = " ".repeat(2399) + "c";
        Check.same("a fault at the last byte", Check.music(turner, late), 1);
        Check.same("its place", turner.fault(1), 2399);
        Check.same("a number as long as the tape", Check.music(turner, "c4:" + "1".repeat(2397)), 2);
        Check.same("its place, too", turner.fault(1), 3);
        Check.same("nothing but blanks", Check.music(turner, " ".repeat(2400)), 0);
        Check.same("is no music", turner.count(0), 0);
        Check.same("every byte a token", Check.music(turner, "|".repeat(2400)), 1);
    }

    public static void main(String[] args) {
        dearestRun();
        costlyWays();
        smallerAndGreaterMusic();
        tapes();
        Check.finish();
    }
}
