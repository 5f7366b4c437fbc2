/** All that an object tells, as a text: two of them are alike if nothing changed between. */
final class Shot {
    private Shot() {
    }

    /** The music, what was heard, prices and lead; not the tape and the latest fault. */
    static String ofMusic(PageTurner turner) {
        StringBuilder shot = new StringBuilder();
        int[] counts = {0, 1, 2, 3, 4, 5, 7};
        for (int what : counts) {
            shot.append(" count ").append(turner.count(what));
        }
        for (int event = 0; event < turner.count(0); event++) {
            addEvent(shot, turner, event);
        }
        if (turner.count(0) > 0) {
            addPlace(shot, turner);
        }
        shot.append(" tempo ").append(turner.tempo(false)).append('/').append(turner.tempo(true));
        shot.append(" time ").append(turner.time(0)).append(' ').append(turner.time(100000));
        shot.append(" turn ").append(turner.turnsAt()).append(" cue ").append(turner.cue());
        addSettings(shot, turner);
        return shot.toString();
    }

    /** The tape's length and the latest fault, too. */
    static String ofAll(PageTurner turner) {
        return ofMusic(turner) + " tape " + turner.count(6) + " fault " + turner.fault(0) + " at " + turner.fault(1);
    }

    private static void addEvent(StringBuilder shot, PageTurner turner, int event) {
        shot.append("\n event");
        int facts = 9 + turner.event(event, 1);
        for (int what = 0; what < facts; what++) {
            shot.append(' ').append(turner.event(event, what));
        }
        shot.append(" costs");
        for (int bits = 0; bits < 1 << turner.event(event, 1); bits++) {
            shot.append(' ').append(turner.cost(event, bits));
        }
    }

    private static void addPlace(StringBuilder shot, PageTurner turner) {
        shot.append("\n place");
        for (int what = 0; what <= 4; what++) {
            shot.append(' ').append(turner.place(what));
        }
        shot.append(" sure ").append(turner.sure());
    }

    /** Prices and the lead are told by the call that changes them, so each is put back. */
    private static void addSettings(StringBuilder shot, PageTurner turner) {
        for (int what = 0; what <= 3; what++) {
            int price = turner.price(what, 0);
            turner.price(what, price);
            shot.append(" price ").append(price);
        }
        int lead = turner.lead(0);
        turner.lead(lead);
        shot.append(" lead ").append(lead);
    }
}
