import java.util.Random;

/** Seeded random runs, every answer compared with the model's. */
public final class ModelTest {
    private static final int NONE = PageTurner.NONE;
    private static final String STRAY = "abcdefgr0123456789+-():~@!%|| \n:x\t";

    private final Random dice;
    private final String run;
    private final PageTurner turner = new PageTurner();
    private final Model model = new Model();
    private int calls = 0;
    private int clock = 0;
    private int player = 0;

    private ModelTest(int seed) {
        dice = new Random(seed);
        run = "run " + seed + ", ";
    }

    private int roll(int sides) {
        return dice.nextInt(sides);
    }

    private boolean chance(int percent) {
        return roll(100) < percent;
    }

    private String blank() {
        return chance(70) ? "" : chance(80) ? " " : " \n";
    }

    private String pitch() {
        String shift = chance(80) ? "" : chance(50) ? "+" : "-";
        return "cdefgab".charAt(roll(7)) + shift + (chance(95) ? 4 : roll(9));
    }

    private String event() {
        String mark = (chance(8) ? "@" + blank() : "") + (chance(10) ? "!" + blank() : "");
        String number = blank() + ":" + blank() + (chance(90) ? 1 + roll(4) : roll(1100));
        int kind = roll(10);
        if (kind < 5) {
            return mark + pitch() + number;
        }
        if (kind < 7) {
            StringBuilder chord = new StringBuilder(mark + "(");
            int pitches = 1 + roll(4) + (chance(2) ? 1 : 0);
            for (int i = 0; i < pitches; i++) {
                chord.append(blank()).append(pitch());
            }
            return chord + blank() + ")" + number;
        }
        return mark + (kind < 9 ? "~" + blank() + pitch() : "r") + number;
    }

    private String text() {
        StringBuilder text = new StringBuilder();
        int measures = chance(80) ? roll(5) : roll(40);
        for (int m = 0; m < measures; m++) {
            text.append(blank()).append(chance(25) ? "|:" : "");
            int events = 1 + roll(4);
            for (int e = 0; e < events; e++) {
                text.append(blank()).append(event());
            }
            text.append(blank()).append(chance(30) ? ":|" : "|").append(blank()).append(chance(30) ? "%" : "");
        }
        int strays = chance(75) ? 0 : 1 + roll(2);
        for (int i = 0; i < strays && text.length() > 0; i++) {
            int at = roll(text.length());
            int how = roll(3);
            if (how > 0) {
                text.deleteCharAt(at);
            }
            if (how < 2) {
                text.insert(at, STRAY.charAt(roll(STRAY.length())));
            }
        }
        return text.length() > 2400 ? text.substring(0, 2400) : text.toString();
    }

    private void same(String what, long got, long due) {
        Check.same(run + "call " + calls + ", " + what, got, due);
    }

    private void newMusic() {
        String text = text();
        calls += 1 + text.length() / 20;
        Check.feed(turner, text);
        same("music " + text, turner.music(text.length()), model.music(text));
        same("fault(0) " + text, turner.fault(0), model.fault);
        same("fault(1) " + text, turner.fault(1), model.faultPlace);
        compareEvents();
    }

    private void compareEvents() {
        same("events", turner.count(0), model.events.size());
        same("measures", turner.count(1), model.measures());
        same("pages", turner.count(2), model.pages());
        same("beats", turner.count(3), model.beats());
        same("cues", turner.count(7), model.cueCount());
        for (int i = 0; i < Math.min(turner.count(0), model.events.size()); i++) {
            Model.Event due = model.events.get(i);
            int[] facts = {due.kind, due.pitches.size(), due.beat, due.number, due.measure, due.page,
                due.marked ? 1 : 0, due.cued ? 1 : 0, due.behind};
            for (int what = 0; what < 9; what++) {
                same("event(" + i + ", " + what + ")", turner.event(i, what), facts[what]);
            }
            for (int p = 0; p < due.pitches.size(); p++) {
                same("event(" + i + ", " + (9 + p) + ")", turner.event(i, 9 + p), due.pitches.get(p));
            }
        }
    }

    private int playedNote() {
        if (model.events.isEmpty() || chance(12)) {
            return roll(128);
        }
        if (chance(10)) {
            player = roll(model.events.size());
        }
        if (player >= model.events.size()) {
            player = 0;
        }
        Model.Event event = model.events.get(player);
        int note = event.pitches.isEmpty() ? 48 : event.pitches.get(roll(event.pitches.size()));
        if (event.kind == 2 && chance(60)) {
            note += roll(3) - 1;
        }
        if (event.kind == 3 || chance(event.kind == 0 ? 95 : 40)) {
            player = event.behind != NONE && chance(40) ? event.behind : player + 1;
        }
        return Math.max(0, Math.min(127, note));
    }

    private void play() {
        clock = Math.min(100000000, clock + (chance(98) ? roll(900) : roll(30000000)));
        int time = chance(97) ? clock : Math.max(0, clock - roll(3000));
        int note = playedNote();
        int latest = model.notes.isEmpty() ? 0 : latestTime;
        boolean taken = !model.events.isEmpty() && model.notes.size() < 400 && time >= latest;
        if (taken) {
            model.hear(note, time);
            latestTime = time;
            times[model.notes.size()] = time;
        }
        same("heard(" + note + ", " + time + ")", turner.heard(note, time), taken ? model.placeEvent() : NONE);
    }

    private int latestTime = 0;
    private final int[] times = new int[401];

    private void takeBack() {
        int due = model.notes.size() - 1;
        if (due >= 0) {
            model.notes.remove(due);
            latestTime = times[due];
        }
        same("back()", turner.back(), due);
    }

    private void another() {
        int kind = roll(100);
        calls++;
        if (kind < 70) {
            play();
        } else if (kind < 82) {
            takeBack();
        } else if (kind < 90) {
            int what = roll(4);
            int price = chance(70) ? roll(8) : roll(51);
            same("price", turner.price(what, price), model.prices[what]);
            model.prices[what] = price;
        } else if (kind < 94) {
            int lead = roll(60001);
            same("lead", turner.lead(lead), model.lead);
            model.lead = lead;
        } else if (kind < 96) {
            same("again()", turner.again(), model.notes.size());
            model.notes.clear();
            clock = 0;
        } else {
            newMusic();
        }
    }

    private void compare() {
        same("notes", turner.count(4), model.notes.size());
        same("anchors", turner.count(5), model.anchors().size());
        same("tempo(false)", turner.tempo(false), model.tempo()[0]);
        same("tempo(true)", turner.tempo(true), model.tempo()[1]);
        int beat = chance(70) ? roll(40) : roll(100001);
        same("time(" + beat + ")", turner.time(beat), model.time(beat));
        same("turnsAt()", turner.turnsAt(), model.turnsAt());
        same("cue()", turner.cue(), model.cue());
        if (!model.events.isEmpty()) {
            comparePlaces();
        }
    }

    private void comparePlaces() {
        int event = model.placeEvent();
        int[][] costs = model.costs();
        same("place(0)", turner.place(0), event);
        same("place(1)", turner.place(1), model.placeBits());
        same("place(2)", turner.place(2), costs[event][model.placeBits()]);
        same("place(3)", turner.place(3), model.events.get(event).measure);
        same("place(4)", turner.place(4), model.events.get(event).page);
        same("sure()", turner.sure(), model.sure());
        for (int e = 0; e < costs.length; e++) {
            for (int bits = 0; bits < costs[e].length; bits++) {
                same("cost(" + e + ", " + bits + ")", turner.cost(e, bits), costs[e][bits]);
            }
        }
    }

    private void go() {
        newMusic();
        int steps = 5 + roll(60);
        for (int i = 0; i < steps; i++) {
            another();
            compare();
        }
    }

    public static void main(String[] args) {
        int first = args.length > 0 ? Integer.parseInt(args[0]) : 0;
        int runs = args.length > 1 ? Integer.parseInt(args[1]) : 1500;
        for (int seed = first; seed < first + runs; seed++) {
            new ModelTest(seed).go();
        }
        Check.finish();
    }
}
