/** Counts answers that are not as due and prints them; finish() ends with exit code 1 if there was one. */
final class Check {
    interface Call {
        long run();
    }

    private static int wrong = 0;
    private static int asked = 0;

    private Check() {
    }

    static void same(String what, long got, long due) {
        asked++;
        if (got != due) {
            wrong++;
            System.out.println(what + " answered " + got + ", due is " + due);
        }
    }

    static void same(String what, String got, String due) {
        asked++;
        if (!got.equals(due)) {
            wrong++;
            System.out.println(what + " left\n" + got + "\ndue is\n" + due);
        }
    }

    static void refuses(String what, Class<? extends RuntimeException> due, Call call) {
        asked++;
        String got;
        try {
            got = "" + call.run();
        } catch (RuntimeException e) {
            if (e.getClass() == due) {
                return;
            }
            got = e.getClass().getName();
        }
        wrong++;
        System.out.println(what + " answered " + got + ", due is " + due.getName());
    }

    static void noSuch(String what, Call call) {
        refuses(what, java.util.NoSuchElementException.class, call);
    }

    static void illegal(String what, Call call) {
        refuses(what, IllegalArgumentException.class, call);
    }

    /** Puts a text on the tape, with blanks up to a multiple of twenty bytes. */
    static void feed(PageTurner turner, String text) {
        for (int at = 0; at < text.length(); at += 20) {
            turner.feed(word(text, at), word(text, at + 4), word(text, at + 8), word(text, at + 12), word(text, at + 16));
        }
    }

    private static int word(String text, int at) {
        int word = 0;
        for (int i = at; i < at + 4; i++) {
            word = word << 8 | (i < text.length() ? text.charAt(i) & 255 : ' ');
        }
        return word;
    }

    static int music(PageTurner turner, String text) {
        feed(turner, text);
        return turner.music(text.length());
    }

    /** A new object with this music, which must be sound. */
    static PageTurner playing(String text) {
        PageTurner turner = new PageTurner();
        same("music(" + text + ")", music(turner, text), 0);
        return turner;
    }

    static void finish() {
        System.out.println(asked + " answers, " + wrong + " not as due");
        if (wrong != 0) {
            System.exit(1);
        }
    }
}
