import java.util.ArrayList;
import java.util.List;
import java.util.regex.Matcher;
import java.util.regex.Pattern;

/**
 * The document read a second time, as plainly and as slowly as one likes, for comparison: tokens by
 * patterns, costs by trying every move until nothing gets cheaper, anchors by going over all notes.
 */
final class Model {
    static final int NONE = -1;
    private static final Pattern TOKEN = Pattern.compile("[a-g][+-]?[0-8]|[0-9]+|\\|:|:\\||[():~r@!%|]");

    static final class Event {
        int kind;
        List<Integer> pitches = new ArrayList<>();
        int beat;
        int number;
        int measure;
        int page;
        boolean marked;
        boolean cued;
        int behind = NONE;

        int places() {
            return 1 << pitches.size();
        }
    }

    /** A fault that ends the reading of a text. */
    private static final class Fault extends Exception {
        private static final long serialVersionUID = 1L;
        final int what;
        final int where;

        Fault(int what, int where) {
            this.what = what;
            this.where = where;
        }
    }

    private record Note(int note, int time, int event, int bits, int[][] costs) {
    }

    List<Event> events = new ArrayList<>();
    int fault = 0;
    int faultPlace = NONE;
    int[] prices = {3, 2, 2, 6};
    int lead = 1000;
    List<Note> notes = new ArrayList<>();

    // the text being read
    private String text;
    private int at;
    private String token;
    private int marks;
    private int cues;
    private List<Event> draft;

    int music(String music) {
        text = music;
        at = 0;
        marks = 0;
        cues = 0;
        draft = new ArrayList<>();
        fault = 0;
        faultPlace = NONE;
        try {
            look();
            readText();
            events = draft;
            notes.clear();
        } catch (Fault f) {
            fault = f.what;
            faultPlace = f.where;
        }
        return fault;
    }

    /** Finds the token at hand: an empty one at the end, a blank where there is none. */
    private void look() {
        while (at < text.length() && (text.charAt(at) == ' ' || text.charAt(at) == '\n')) {
            at++;
        }
        if (at == text.length()) {
            token = "";
            return;
        }
        Matcher matcher = TOKEN.matcher(text).region(at, text.length());
        token = matcher.lookingAt() ? matcher.group() : " ";
    }

    private String take() {
        String taken = token;
        at += taken.length();
        look();
        return taken;
    }

    private boolean isPitch() {
        return token.matches("[a-g].*");
    }

    private boolean isEvent() {
        return isPitch() || token.equals("(") || token.equals("~") || token.equals("r");
    }

    private void want(boolean fits) throws Fault {
        if (!fits) {
            throw new Fault(1, at);
        }
    }

    private void bound(boolean within) throws Fault {
        if (!within) {
            throw new Fault(2, at);
        }
    }

    private void readText() throws Fault {
        int measure = 0;
        int page = 0;
        List<Integer> firsts = new ArrayList<>();
        List<Boolean> opens = new ArrayList<>();
        List<Boolean> closes = new ArrayList<>();
        while (!token.isEmpty()) {
            opens.add(token.equals("|:"));
            if (token.equals("|:")) {
                take();
            }
            firsts.add(draft.size());
            do {
                readMarked(measure, page);
            } while (token.equals("@") || token.equals("!") || isEvent());
            want(token.equals("|") || token.equals(":|"));
            closes.add(take().equals(":|"));
            if (token.equals("%")) {
                take();
                page++;
            }
            measure++;
        }
        for (int m = 0; m < measure; m++) {
            if (closes.get(m)) {
                int last = m + 1 < measure ? firsts.get(m + 1) - 1 : draft.size() - 1;
                draft.get(last).behind = firsts.get(repeatedFrom(m, opens, closes));
            }
        }
    }

    private static int repeatedFrom(int measure, List<Boolean> opens, List<Boolean> closes) {
        for (int m = measure; m >= 0; m--) {
            if (m < measure && closes.get(m)) {
                return m + 1;
            }
            if (opens.get(m)) {
                return m;
            }
        }
        return 0;
    }

    private void readMarked(int measure, int page) throws Fault {
        Event event = new Event();
        event.measure = measure;
        event.page = page;
        if (token.equals("@")) {
            bound(++marks <= 10);
            event.marked = true;
            take();
        }
        if (token.equals("!")) {
            bound(++cues <= 20);
            event.cued = true;
            take();
        }
        want(isEvent());
        bound(draft.size() < 100);
        if (token.equals("(")) {
            take();
            event.kind = 1;
            do {
                want(isPitch());
                bound(event.pitches.size() < 4);
                if (event.pitches.contains(pitch(token))) {
                    throw new Fault(3, at);
                }
                event.pitches.add(pitch(take()));
            } while (!token.equals(")"));
            take();
        } else if (token.equals("r")) {
            take();
            event.kind = 3;
        } else {
            if (token.equals("~")) {
                take();
                event.kind = 2;
            }
            want(isPitch());
            event.pitches.add(pitch(take()));
        }
        want(token.equals(":"));
        take();
        want(token.matches("[0-9]+"));
        bound(token.length() <= 3 && Integer.parseInt(token) > 0);
        event.number = Integer.parseInt(take());
        for (Event ahead : draft) {
            event.beat += ahead.number;
        }
        draft.add(event);
    }

    private static int pitch(String token) {
        int number = "c.d.ef.g.a.b".indexOf(token.charAt(0));
        number += 12 * (token.charAt(token.length() - 1) - '0');
        return number + (token.contains("+") ? 1 : token.contains("-") ? -1 : 0);
    }

    int measures() {
        return (int) events.stream().map(e -> e.measure).distinct().count();
    }

    int pages() {
        return (int) events.stream().map(e -> e.page).distinct().count();
    }

    int beats() {
        return events.stream().mapToInt(e -> e.number).sum();
    }

    int cueCount() {
        return (int) events.stream().filter(e -> e.cued).count();
    }

    int[][] costs() {
        return notes.isEmpty() ? first() : notes.get(notes.size() - 1).costs;
    }

    /** Costs by event and bits, NONE where no way leads. */
    private int[][] first() {
        int[][] costs = nowhere();
        if (costs.length > 0) {
            costs[0][0] = 0;
        }
        return costs;
    }

    private int[][] nowhere() {
        int[][] costs = new int[events.size()][];
        for (int e = 0; e < costs.length; e++) {
            costs[e] = new int[events.get(e).places()];
            java.util.Arrays.fill(costs[e], NONE);
        }
        return costs;
    }

    private static boolean cheapen(int[][] costs, int event, int bits, int cost) {
        if (costs[event][bits] != NONE && costs[event][bits] <= cost) {
            return false;
        }
        costs[event][bits] = cost;
        return true;
    }

    private void silent(int[][] costs) {
        boolean changed = true;
        while (changed) {
            changed = false;
            for (int e = 0; e < costs.length; e++) {
                for (int bits = 0; bits < costs[e].length; bits++) {
                    if (costs[e][bits] != NONE) {
                        changed |= silentFrom(costs, e, bits);
                    }
                }
            }
        }
    }

    private boolean silentFrom(int[][] costs, int e, int bits) {
        boolean changed = false;
        int cost = costs[e][bits];
        int leaving = cost + prices[2] * (events.get(e).pitches.size() - Integer.bitCount(bits));
        if (e + 1 < events.size()) {
            changed |= cheapen(costs, e + 1, 0, leaving);
        }
        if (events.get(e).behind != NONE) {
            changed |= cheapen(costs, events.get(e).behind, 0, leaving);
        }
        for (int to = 0; to < events.size(); to++) {
            if (events.get(to).marked) {
                changed |= cheapen(costs, to, 0, cost + prices[3]);
            }
        }
        return changed;
    }

    void hear(int note, int time) {
        int[][] from = new int[events.size()][];
        int[][] before = costs();
        for (int e = 0; e < from.length; e++) {
            from[e] = before[e].clone();
        }
        silent(from);
        int[][] to = nowhere();
        for (int e = 0; e < from.length; e++) {
            for (int bits = 0; bits < from[e].length; bits++) {
                if (from[e][bits] != NONE) {
                    sound(to, e, bits, from[e][bits], note);
                }
            }
        }
        int event = NONE;
        int least = 0;
        for (int e = to.length - 1; e >= 0; e--) {
            for (int bits = to[e].length - 1; bits >= 0; bits--) {
                if (to[e][bits] != NONE && (event == NONE || to[e][bits] <= to[event][least])) {
                    event = e;
                    least = bits;
                }
            }
        }
        notes.add(new Note(note, time, event, least, to));
    }

    private void sound(int[][] to, int e, int bits, int cost, int note) {
        Event event = events.get(e);
        cheapen(to, e, bits, cost + prices[1]);
        for (int i = 0; i < event.pitches.size(); i++) {
            if ((bits & 1 << i) == 0) {
                cheapen(to, e, bits | 1 << i, cost + prices[0]);
                break;
            }
        }
        if (event.kind == 2) {
            if (Math.abs(note - event.pitches.get(0)) <= 1) {
                cheapen(to, e, 1, cost);
            }
            return;
        }
        int i = event.pitches.indexOf(note);
        if (i >= 0 && (bits & 1 << i) == 0) {
            cheapen(to, e, bits | 1 << i, cost);
        }
    }

    int placeEvent() {
        return notes.isEmpty() ? 0 : notes.get(notes.size() - 1).event;
    }

    int placeBits() {
        return notes.isEmpty() ? 0 : notes.get(notes.size() - 1).bits;
    }

    int sure() {
        int least = NONE;
        int[][] costs = costs();
        for (int e = 0; e < costs.length; e++) {
            for (int cost : costs[e]) {
                boolean other = events.get(e).measure != events.get(placeEvent()).measure;
                if (other && cost != NONE && (least == NONE || cost < least)) {
                    least = cost;
                }
            }
        }
        return least == NONE ? NONE : least - costs[placeEvent()][placeBits()];
    }

    /** The anchors that are left, each as its beat and its time. */
    List<int[]> anchors() {
        List<int[]> anchors = new ArrayList<>();
        int latest = NONE;
        int ahead = 0;
        for (int i = 0; i < notes.size(); i++) {
            int event = notes.get(i).event;
            if (i == 0 || event != ahead) {
                if (event < latest) {
                    anchors.clear();
                }
                anchors.add(new int[] {events.get(event).beat, notes.get(i).time});
                latest = event;
            }
            ahead = event;
        }
        return anchors;
    }

    /** The tempo as its upper and its lower part, in lowest terms. */
    int[] tempo() {
        List<int[]> anchors = anchors();
        if (anchors.size() < 2) {
            return new int[] {500, 1};
        }
        int[] latest = anchors.get(anchors.size() - 1);
        int[] base = anchors.get(Math.max(0, anchors.size() - 5));
        java.math.BigInteger upper = java.math.BigInteger.valueOf(latest[1] - base[1]);
        java.math.BigInteger lower = java.math.BigInteger.valueOf(latest[0] - base[0]);
        java.math.BigInteger divisor = upper.gcd(lower);
        return new int[] {upper.divide(divisor).intValue(), lower.divide(divisor).intValue()};
    }

    long time(int beat) {
        List<int[]> anchors = anchors();
        if (anchors.isEmpty()) {
            return NONE;
        }
        int[] latest = anchors.get(anchors.size() - 1);
        int[] tempo = tempo();
        java.math.BigDecimal product = java.math.BigDecimal.valueOf(tempo[0])
            .multiply(java.math.BigDecimal.valueOf(beat - latest[0]));
        return latest[1] + product.divide(java.math.BigDecimal.valueOf(tempo[1]), 0, java.math.RoundingMode.FLOOR)
            .longValueExact();
    }

    long turnsAt() {
        if (notes.isEmpty()) {
            return NONE;
        }
        int page = events.get(placeEvent()).page;
        int end = 0;
        for (Event event : events) {
            if (event.page == page) {
                end = event.beat + event.number;
            }
        }
        return page == pages() - 1 ? NONE : time(end) - lead;
    }

    long cue() {
        for (int e = placeEvent(); e < events.size() && !notes.isEmpty(); e++) {
            if (events.get(e).cued) {
                return time(events.get(e).beat);
            }
        }
        return NONE;
    }
}
