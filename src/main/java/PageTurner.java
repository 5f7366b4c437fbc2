import java.util.NoSuchElementException;

/** Follows a player through written music and tells pages and cues ahead of their time. */
public final class PageTurner {
    public static final int NONE = -1;

    private static final int TAPE_BYTES = 2400;
    private static final int FEED_BYTES = 20;
    private static final int MOST_EVENTS = 100;
    private static final int MOST_NOTES = 400;
    private static final int HIGHEST_NOTE = 127;
    private static final int LAST_TIME = 100000000;
    private static final int LAST_BEAT = 100000;
    private static final int LONGEST_LEAD = 60000;
    private static final int HIGHEST_PRICE = 50;

    private final byte[] tape = new byte[TAPE_BYTES];
    private int tapeLength = 0;
    private final Reader reader = new Reader();
    private Score score = new Score();
    private final Follower follower = new Follower(score);
    private int turnLead = 1000;

    public PageTurner() {
    }

    public int feed(int a, int b, int c, int d, int e) {
        if (tapeLength > TAPE_BYTES - FEED_BYTES) {
            return NONE;
        }
        putBytes(a);
        putBytes(b);
        putBytes(c);
        putBytes(d);
        putBytes(e);
        return tapeLength;
    }

    private void putBytes(int number) {
        for (int shift = 24; shift >= 0; shift -= 8) {
            if (tapeLength >= 0 && tapeLength < tape.length) {
                tape[tapeLength] = (byte) (number >> shift);
                tapeLength++;
            }
        }
    }

    public int music(int n) throws IllegalArgumentException {
        if (n < 0 || n > tapeLength) {
            throw new IllegalArgumentException("the tape has not so many bytes");
        }
        tapeLength = 0;
        int fault = reader.read(tape, n);
        if (fault == Reader.SOUND) {
            score = reader.trade(score);
            follower.begin(score);
        }
        return fault;
    }

    public int fault(int what) throws NoSuchElementException {
        switch (what) {
            case 0:
                return reader.fault;
            case 1:
                return reader.faultPlace;
            default:
                throw new NoSuchElementException("a fault has no such number");
        }
    }

    public int count(int what) throws NoSuchElementException {
        switch (what) {
            case 0:
                return score.events;
            case 1:
                return score.measuresWithEvents();
            case 2:
                return score.pagesWithEvents();
            case 3:
                return score.beats;
            case 4:
                return follower.notes;
            case 5:
                return follower.anchors();
            case 6:
                return tapeLength;
            case 7:
                return score.cues;
            default:
                throw new NoSuchElementException("nothing of this kind is counted");
        }
    }

    public int event(int event, int what) throws NoSuchElementException {
        if (!score.has(event) || what < 0) {
            throw new NoSuchElementException("no such event");
        }
        if (what >= Score.FIRST_PITCH + score.fact(event, Score.PITCHES)) {
            throw new NoSuchElementException("the event has no such number");
        }
        return score.fact(event, what);
    }

    public int price(int what, int v) throws IllegalArgumentException {
        if (!follower.hasPrice(what) || v < 0 || v > HIGHEST_PRICE) {
            throw new IllegalArgumentException("no such price");
        }
        return follower.changePrice(what, v);
    }

    public int heard(int note, int time) throws IllegalArgumentException {
        if (note < 0 || note > HIGHEST_NOTE || time < 0 || time > LAST_TIME) {
            throw new IllegalArgumentException("no such note or time");
        }
        if (score.events == 0 || follower.notes >= MOST_NOTES || time < follower.latestTime()) {
            return NONE;
        }
        follower.hear(note, time);
        return follower.placeEvent();
    }

    public int back() {
        return follower.takeBack() ? follower.notes : NONE;
    }

    public int again() {
        int notes = follower.notes;
        follower.forget();
        return notes;
    }

    public int place(int what) throws NoSuchElementException {
        if (score.events == 0) {
            throw new NoSuchElementException("there is no music");
        }
        switch (what) {
            case 0:
                return follower.placeEvent();
            case 1:
                return follower.placeBits();
            case 2:
                return follower.placeCost();
            case 3:
                return score.fact(follower.placeEvent(), Score.MEASURE);
            case 4:
                return score.fact(follower.placeEvent(), Score.PAGE);
            default:
                throw new NoSuchElementException("a place has no such number");
        }
    }

    public int cost(int event, int bits) throws NoSuchElementException {
        if (!score.has(event) || bits < 0 || bits > score.allBits(event)) {
            throw new NoSuchElementException("no such place");
        }
        return follower.costOf(event, bits);
    }

    public int sure() throws NoSuchElementException {
        if (score.events == 0) {
            throw new NoSuchElementException("there is no music");
        }
        return follower.leadOverOtherMeasures();
    }

    public int tempo(boolean below) {
        int upper = follower.tempoUpper();
        int lower = follower.tempoLower();
        int divisor = commonDivisor(upper, lower);
        int part = below ? lower : upper;
        return divisor == 0 ? part : part / divisor;
    }

    private static int commonDivisor(int first, int second) {
        int greater = first;
        int smaller = second;
        // Euclid's steps on two ints are fewer than 64
        for (int step = 0; step < 64 && smaller != 0; step++) {
            int rest = greater % smaller;
            greater = smaller;
            smaller = rest;
        }
        return greater;
    }

    public long time(int beat) throws IllegalArgumentException {
        if (beat < 0 || beat > LAST_BEAT) {
            throw new IllegalArgumentException("no such beat");
        }
        return follower.timeOfBeat(beat);
    }

    public long turnsAt() {
        int next = score.firstOfNextPage(follower.placeEvent());
        if (next == NONE || follower.anchors() == 0) {
            return NONE;
        }
        // a page ends at the beat at which the next one begins
        return follower.timeOfBeat(score.fact(next, Score.BEAT)) - turnLead;
    }

    public long cue() {
        int next = score.cueFrom(follower.placeEvent());
        return next == NONE ? NONE : follower.timeOfBeat(score.fact(next, Score.BEAT));
    }

    public int lead(int v) throws IllegalArgumentException {
        if (v < 0 || v > LONGEST_LEAD) {
            throw new IllegalArgumentException("no such lead");
        }
        int old = turnLead;
        turnLead = v;
        return old;
    }

    /** Music as a table: a row an event, its first columns as the face's event() numbers them. */
    private static final class Score {
        static final int KIND = 0;
        static final int PITCHES = 1;
        static final int BEAT = 2;
        static final int NUMBER = 3;
        static final int MEASURE = 4;
        static final int PAGE = 5;
        static final int MARKED = 6;
        static final int CUED = 7;
        static final int BEHIND = 8;
        static final int FIRST_PITCH = 9;
        static final int MOST_PITCHES = 4;
        static final int FIRST_STATE = FIRST_PITCH + MOST_PITCHES;
        static final int COLUMNS = FIRST_STATE + 1;

        static final int NOTE = 0;
        static final int CHORD = 1;
        static final int ORNAMENT = 2;
        static final int REST = 3;

        private final int[] facts = new int[MOST_EVENTS * COLUMNS];
        int events;
        int beats;
        int cues;
        int states;
        private int measure;
        private int page;

        void clear() {
            events = 0;
            beats = 0;
            cues = 0;
            states = 0;
            measure = 0;
            page = 0;
        }

        boolean has(int event) {
            return event >= 0 && event < events;
        }

        /** Reaches the event that is being written, too, which has() does not count yet. */
        int fact(int event, int column) {
            if (event < 0 || event >= MOST_EVENTS || column < 0 || column >= COLUMNS) {
                return NONE;
            }
            return facts[event * COLUMNS + column];
        }

        private void write(int event, int column, int value) {
            if (event >= 0 && event < MOST_EVENTS && column >= 0 && column < COLUMNS) {
                facts[event * COLUMNS + column] = value;
            }
        }

        boolean isFull() {
            return events >= MOST_EVENTS;
        }

        void openEvent(int kind, boolean marked, boolean cued) {
            write(events, KIND, kind);
            write(events, PITCHES, 0);
            write(events, BEAT, beats);
            write(events, MEASURE, measure);
            write(events, PAGE, page);
            write(events, MARKED, marked ? 1 : 0);
            write(events, CUED, cued ? 1 : 0);
            write(events, BEHIND, NONE);
            write(events, FIRST_STATE, states);
        }

        int openPitches() {
            return fact(events, PITCHES);
        }

        boolean openHasPitch(int pitch) {
            int pitches = openPitches();
            for (int i = 0; i < pitches; i++) {
                if (fact(events, FIRST_PITCH + i) == pitch) {
                    return true;
                }
            }
            return false;
        }

        void addPitch(int pitch) {
            int pitches = openPitches();
            if (pitches >= 0 && pitches < MOST_PITCHES) {
                write(events, FIRST_PITCH + pitches, pitch);
                write(events, PITCHES, pitches + 1);
            }
        }

        void closeEvent(int number) {
            if (isFull()) {
                return;
            }
            write(events, NUMBER, number);
            beats += number;
            cues += fact(events, CUED);
            states += allBits(events) + 1;
            events++;
        }

        void repeatFrom(int first) {
            write(events - 1, BEHIND, first);
        }

        void endMeasure() {
            measure++;
        }

        void endPage() {
            page++;
        }

        int measuresWithEvents() {
            return events == 0 ? 0 : fact(events - 1, MEASURE) + 1;
        }

        int pagesWithEvents() {
            return events == 0 ? 0 : fact(events - 1, PAGE) + 1;
        }

        int allBits(int event) {
            int pitches = fact(event, PITCHES);
            return pitches <= 0 ? 0 : (1 << pitches) - 1;
        }

        int firstOfNextPage(int event) {
            int here = fact(event, PAGE);
            for (int next = event + 1; next < events; next++) {
                if (fact(next, PAGE) != here) {
                    return next;
                }
            }
            return NONE;
        }

        int cueFrom(int event) {
            for (int next = event; next < events; next++) {
                if (fact(next, CUED) == 1) {
                    return next;
                }
            }
            return NONE;
        }

        /** The bit that a note rightly sets in an event, 0 if there is none. */
        int rightBit(int event, int note) {
            int reach = fact(event, KIND) == ORNAMENT ? 1 : 0;
            int pitches = fact(event, PITCHES);
            for (int i = 0; i < pitches; i++) {
                if (Math.abs(note - fact(event, FIRST_PITCH + i)) <= reach) {
                    return 1 << i;
                }
            }
            return 0;
        }
    }

    /** Cuts a text into tokens; kind, start and value tell of the one at hand. */
    private static final class Tokens {
        static final int END = 0;
        static final int UNKNOWN = 1;
        static final int PITCH = 2;
        static final int NUMBER = 3;
        static final int REPEAT_OPEN = 4;
        static final int REPEAT_CLOSE = 5;

        private static final int[] STEPS = {9, 11, 0, 2, 4, 5, 7};
        private static final String SIGNS = "():~r@!%|";

        private byte[] text = new byte[0];
        private int length;
        private int next;
        /** One of the kinds above; a token of one sign has the sign as its kind. */
        int kind;
        int start;
        int value;

        void begin(byte[] bytes, int used) {
            text = bytes;
            length = Math.min(used, bytes.length);
            next = 0;
            advance();
        }

        private int byteAt(int at) {
            return at >= 0 && at < length && at < text.length ? text[at] & 255 : NONE;
        }

        private static boolean isDigit(int sign) {
            return sign >= '0' && sign <= '9';
        }

        void advance() {
            skipBlanks();
            start = next;
            value = 0;
            int sign = byteAt(start);
            if (sign == NONE) {
                kind = END;
            } else if (sign >= 'a' && sign <= 'g') {
                takePitch(sign - 'a');
            } else if (isDigit(sign)) {
                takeNumber();
            } else if (sign == '|' && byteAt(start + 1) == ':') {
                take(REPEAT_OPEN, 2);
            } else if (sign == ':' && byteAt(start + 1) == '|') {
                take(REPEAT_CLOSE, 2);
            } else if (SIGNS.indexOf((char) sign) >= 0) {
                take(sign, 1);
            } else {
                take(UNKNOWN, 1);
            }
        }

        private void take(int tokenKind, int bytes) {
            kind = tokenKind;
            next = start + bytes;
        }

        private void skipBlanks() {
            while (next < length && (byteAt(next) == ' ' || byteAt(next) == '\n')) {
                next++;
            }
        }

        private void takePitch(int letter) {
            int shift = 0;
            int digitAt = start + 1;
            if (byteAt(digitAt) == '+') {
                shift = 1;
                digitAt++;
            } else if (byteAt(digitAt) == '-') {
                shift = -1;
                digitAt++;
            }
            int digit = byteAt(digitAt) - '0';
            if (digit < 0 || digit > 8 || letter < 0 || letter >= STEPS.length) {
                take(UNKNOWN, 1);
                return;
            }
            value = 12 * digit + STEPS[letter] + shift;
            take(PITCH, digitAt + 1 - start);
        }

        /** Leaves 0, which no number may be, for one of too many digits. */
        private void takeNumber() {
            int end = start;
            while (end < length && isDigit(byteAt(end))) {
                if (end - start < 3) {
                    value = 10 * value + byteAt(end) - '0';
                }
                end++;
            }
            if (end - start > 3) {
                value = 0;
            }
            take(NUMBER, end - start);
        }
    }

    /**
     * Reads a text into a draft, so that the music ahead stays if there is a fault.
     * It goes token by token; its stand says what came last, a bit for each case.
     */
    private static final class Reader {
        static final int SOUND = 0;
        static final int UNFIT = 1;
        static final int TOO_MUCH = 2;
        static final int TWICE = 3;
        static final int MOST_MARKS = 10;
        static final int MOST_CUES = 20;

        private static final int AT_START = 1;
        private static final int BEHIND_BAR = 2;
        private static final int BEHIND_OPENING = 4;
        private static final int BEHIND_EVENT = 8;
        private static final int BEHIND_MARK = 16;
        private static final int BEHIND_CUE = 32;
        private static final int IN_ORNAMENT = 64;
        private static final int IN_EMPTY_CHORD = 128;
        private static final int IN_CHORD = 256;
        private static final int BEHIND_SOUND = 512;
        private static final int BEHIND_COLON = 1024;

        private static final int FOR_MEASURE = AT_START | BEHIND_BAR;
        private static final int FOR_MARK = FOR_MEASURE | BEHIND_OPENING | BEHIND_EVENT;
        private static final int FOR_CUE = FOR_MARK | BEHIND_MARK;
        private static final int FOR_EVENT = FOR_CUE | BEHIND_CUE;
        private static final int FOR_CHORD_PITCH = IN_EMPTY_CHORD | IN_CHORD;
        private static final int FOR_PITCH = FOR_EVENT | IN_ORNAMENT | FOR_CHORD_PITCH;

        private final Tokens tokens = new Tokens();
        private Score draft = new Score();
        private int stand;
        private int marks;
        private int cues;
        /** Whether an @ and a ! stand ahead of the event to come. */
        private boolean marked;
        private boolean cued;
        private int repeatStart;
        int fault = SOUND;
        int faultPlace = NONE;

        /** Hands over what was read; the old score is written anew by the next reading. */
        Score trade(Score old) {
            Score read = draft;
            draft = old;
            return read;
        }

        int read(byte[] text, int length) {
            stand = AT_START;
            marks = 0;
            cues = 0;
            marked = false;
            cued = false;
            repeatStart = 0;
            draft.clear();
            tokens.begin(text, length);
            fault = faultOfToken();
            for (int i = 0; i < length && fault == SOUND && tokens.kind != Tokens.END; i++) {
                takeToken();
                tokens.advance();
                fault = faultOfToken();
            }
            faultPlace = fault == SOUND ? NONE : tokens.start;
            return fault;
        }

        private int faultOfToken() {
            if (!standsIn(standsAhead(tokens.kind))) {
                return UNFIT;
            }
            if (isTooMuch()) {
                return TOO_MUCH;
            }
            boolean chordPitch = tokens.kind == Tokens.PITCH && standsIn(FOR_CHORD_PITCH);
            return chordPitch && draft.openHasPitch(tokens.value) ? TWICE : SOUND;
        }

        private boolean standsIn(int stands) {
            return (stand & stands) != 0;
        }

        /** The stands in which a token of this kind fits. */
        private static int standsAhead(int kind) {
            switch (kind) {
                case Tokens.END:
                case Tokens.REPEAT_OPEN:
                    return FOR_MEASURE;
                case '@':
                    return FOR_MARK;
                case '!':
                    return FOR_CUE;
                case '(':
                case '~':
                case 'r':
                    return FOR_EVENT;
                case Tokens.PITCH:
                    return FOR_PITCH;
                case ')':
                    return IN_CHORD;
                case ':':
                    return BEHIND_SOUND;
                case Tokens.NUMBER:
                    return BEHIND_COLON;
                case '|':
                case Tokens.REPEAT_CLOSE:
                    return BEHIND_EVENT;
                case '%':
                    return BEHIND_BAR;
                default:
                    return 0;
            }
        }

        private boolean isTooMuch() {
            switch (tokens.kind) {
                case '@':
                    return marks >= MOST_MARKS;
                case '!':
                    return cues >= MOST_CUES;
                case '(':
                case '~':
                case 'r':
                    return draft.isFull();
                case Tokens.PITCH:
                    if (standsIn(FOR_EVENT)) {
                        return draft.isFull();
                    }
                    return draft.openPitches() >= Score.MOST_PITCHES;
                case Tokens.NUMBER:
                    return tokens.value == 0;
                default:
                    return false;
            }
        }

        private void takeToken() {
            switch (tokens.kind) {
                case '@':
                    takeMark();
                    return;
                case '!':
                    takeCue();
                    return;
                case '(':
                    openEvent(Score.CHORD, IN_EMPTY_CHORD);
                    return;
                case '~':
                    openEvent(Score.ORNAMENT, IN_ORNAMENT);
                    return;
                case 'r':
                    openEvent(Score.REST, BEHIND_SOUND);
                    return;
                case Tokens.PITCH:
                    takePitch();
                    return;
                case ')':
                    stand = BEHIND_SOUND;
                    return;
                case ':':
                    stand = BEHIND_COLON;
                    return;
                case Tokens.NUMBER:
                    draft.closeEvent(tokens.value);
                    stand = BEHIND_EVENT;
                    return;
                default:
                    takeBarOrPage();
            }
        }

        private void takeMark() {
            marked = true;
            marks++;
            stand = BEHIND_MARK;
        }

        private void takeCue() {
            cued = true;
            cues++;
            stand = BEHIND_CUE;
        }

        private void openEvent(int kind, int behind) {
            draft.openEvent(kind, marked, cued);
            marked = false;
            cued = false;
            stand = behind;
        }

        private void takePitch() {
            boolean inChord = standsIn(FOR_CHORD_PITCH);
            if (standsIn(FOR_EVENT)) {
                openEvent(Score.NOTE, BEHIND_SOUND);
            }
            draft.addPitch(tokens.value);
            stand = inChord ? IN_CHORD : BEHIND_SOUND;
        }

        private void takeBarOrPage() {
            switch (tokens.kind) {
                case Tokens.REPEAT_OPEN:
                    repeatStart = draft.events;
                    stand = BEHIND_OPENING;
                    return;
                case Tokens.REPEAT_CLOSE:
                    draft.repeatFrom(repeatStart);
                    draft.endMeasure();
                    // without a |: to come, the next repeat goes back to here
                    repeatStart = draft.events;
                    stand = BEHIND_BAR;
                    return;
                case '|':
                    draft.endMeasure();
                    stand = BEHIND_BAR;
                    return;
                case '%':
                    draft.endPage();
                    stand = AT_START;
                    return;
                default:
                    // no other kind comes here: faultOfToken() has refused it
            }
        }
    }

    /** What stands behind a note; the moments are a chain, so that a note can be taken back. */
    private static final class Moment {
        /** Above the cost of every way: 400 notes and a walk through all events stay below 100,000. */
        static final int FAR = 1000000;

        final Moment before;
        Moment next;
        private int[] costs = new int[0];
        int clock;
        int placeEvent;
        int placeBits;
        int placeCost;
        int anchors;
        /** The latest anchor up to now. */
        Moment anchor;
        /** The anchor ahead of this one, if this is one. */
        Moment anchorAhead;

        Moment(Moment before) {
            this.before = before;
        }

        void clear(int states) {
            if (states > costs.length) {
                costs = new int[states];
            }
            for (int i = 0; i < states && i < costs.length; i++) {
                costs[i] = FAR;
            }
            placeEvent = 0;
            placeBits = 0;
            placeCost = FAR;
            anchors = 0;
            anchor = null;
            anchorAhead = null;
        }

        int costAt(int state) {
            return state >= 0 && state < costs.length ? costs[state] : FAR;
        }

        void offer(int state, int cost) {
            if (state >= 0 && state < costs.length && cost < costs[state]) {
                costs[state] = cost;
            }
        }
    }

    /** Keeps the costs of all places, note by note, and the anchors that tell the tempo. */
    private static final class Follower {
        static final int WRONG = 0;
        static final int ADDED = 1;
        static final int LEFT = 2;
        static final int JUMP = 3;
        static final int ANCHORS_BACK = 4;
        static final int FIRST_TEMPO = 500;

        private Score score;
        private final int[] prices = {3, 2, 2, 6};
        /** The least cost of each event with nothing heard of it, once the silent moves are made. */
        private final int[] arrivals = new int[MOST_EVENTS];
        /** The least cost of leaving each event from those of its places where something was heard. */
        private final int[] departures = new int[MOST_EVENTS];
        private final Moment start = new Moment(null);
        private Moment now = start;
        int notes;

        Follower(Score music) {
            score = music;
        }

        void begin(Score music) {
            score = music;
            start.clear(score.states);
            start.offer(0, 0);
            start.placeCost = 0;
            forget();
        }

        void forget() {
            now = start;
            notes = 0;
        }

        boolean takeBack() {
            Moment before = now.before;
            if (before == null) {
                return false;
            }
            now = before;
            notes--;
            return true;
        }

        boolean hasPrice(int what) {
            return what >= 0 && what < prices.length;
        }

        int changePrice(int what, int price) {
            int old = priceOf(what);
            if (hasPrice(what)) {
                prices[what] = price;
            }
            return old;
        }

        private int priceOf(int what) {
            return hasPrice(what) ? prices[what] : NONE;
        }

        int latestTime() {
            return notes == 0 ? 0 : now.clock;
        }

        int placeEvent() {
            return now.placeEvent;
        }

        int placeBits() {
            return now.placeBits;
        }

        int placeCost() {
            return now.placeCost;
        }

        int anchors() {
            return now.anchors;
        }

        int costOf(int event, int bits) {
            int cost = now.costAt(score.fact(event, Score.FIRST_STATE) + bits);
            return cost >= Moment.FAR ? NONE : cost;
        }

        int leadOverOtherMeasures() {
            int here = score.fact(now.placeEvent, Score.MEASURE);
            int least = Moment.FAR;
            for (int event = 0; event < score.events; event++) {
                if (score.fact(event, Score.MEASURE) != here) {
                    least = Math.min(least, leastOf(event));
                }
            }
            return least >= Moment.FAR ? NONE : least - now.placeCost;
        }

        private int leastOf(int event) {
            int first = score.fact(event, Score.FIRST_STATE);
            int last = first + score.allBits(event);
            int least = Moment.FAR;
            for (int state = first; state <= last; state++) {
                least = Math.min(least, now.costAt(state));
            }
            return least;
        }

        void hear(int note, int time) {
            Moment next = now.next;
            if (next == null) {
                next = new Moment(now);
                now.next = next;
            }
            next.clear(score.states);
            next.clock = time;
            makeSilentMoves();
            for (int event = 0; event < score.events; event++) {
                takeNote(event, note, next);
                findPlace(event, next);
            }
            dropAnchor(next);
            now = next;
            notes++;
        }

        private boolean hasRow(int event) {
            return event >= 0 && event < arrivals.length && event < departures.length;
        }

        private void makeSilentMoves() {
            // the cheapest jump is that from THE PLACE, ahead of all other moves
            int jump = now.placeCost + priceOf(JUMP);
            for (int event = 0; event < score.events && hasRow(event); event++) {
                int standing = now.costAt(score.fact(event, Score.FIRST_STATE));
                boolean marked = score.fact(event, Score.MARKED) == 1;
                arrivals[event] = marked ? Math.min(standing, jump) : standing;
                departures[event] = departureFrom(event);
            }
            boolean changed = true;
            for (int pass = 0; pass <= MOST_EVENTS && changed; pass++) {
                changed = walkOn();
            }
        }

        private int departureFrom(int event) {
            int first = score.fact(event, Score.FIRST_STATE);
            int all = score.allBits(event);
            int least = Moment.FAR;
            for (int bits = 1; bits <= all; bits++) {
                int missing = Integer.bitCount(all - bits);
                least = Math.min(least, now.costAt(first + bits) + missing * priceOf(LEFT));
            }
            return least;
        }

        /** One walk along the events; true if a repeat led back cheaper, so that another is due. */
        private boolean walkOn() {
            boolean changed = false;
            for (int event = 0; event < score.events && hasRow(event); event++) {
                int missing = score.fact(event, Score.PITCHES);
                int leaving = Math.min(departures[event], arrivals[event] + missing * priceOf(LEFT));
                arrive(event + 1, leaving);
                if (arrive(score.fact(event, Score.BEHIND), leaving)) {
                    changed = true;
                }
            }
            return changed;
        }

        private boolean arrive(int event, int cost) {
            if (!hasRow(event) || !score.has(event) || cost >= arrivals[event]) {
                return false;
            }
            arrivals[event] = cost;
            return true;
        }

        private void takeNote(int event, int note, Moment next) {
            if (!hasRow(event)) {
                return;
            }
            int first = score.fact(event, Score.FIRST_STATE);
            int all = score.allBits(event);
            int right = score.rightBit(event, note);
            boolean ornament = score.fact(event, Score.KIND) == Score.ORNAMENT;
            for (int bits = 0; bits <= all; bits++) {
                int cost = bits == 0 ? arrivals[event] : now.costAt(first + bits);
                next.offer(first + bits, cost + priceOf(ADDED));
                if (bits != all) {
                    int withLowest = bits | (bits + 1);
                    next.offer(first + withLowest, cost + priceOf(WRONG));
                }
                if (right != 0 && (ornament || (bits & right) == 0)) {
                    next.offer(first + (bits | right), cost);
                }
            }
        }

        private void findPlace(int event, Moment next) {
            int first = score.fact(event, Score.FIRST_STATE);
            int all = score.allBits(event);
            for (int bits = 0; bits <= all; bits++) {
                int cost = next.costAt(first + bits);
                if (cost < next.placeCost) {
                    next.placeCost = cost;
                    next.placeEvent = event;
                    next.placeBits = bits;
                }
            }
        }

        private void dropAnchor(Moment next) {
            Moment latest = now.anchor;
            if (latest == null || next.placeEvent < latest.placeEvent) {
                next.anchor = next;
                next.anchors = 1;
            } else if (next.placeEvent != now.placeEvent) {
                next.anchor = next;
                next.anchorAhead = latest;
                next.anchors = now.anchors + 1;
            } else {
                next.anchor = latest;
                next.anchors = now.anchors;
            }
        }

        /** The anchor that the tempo is measured from: null if there are not two. */
        private Moment tempoBase() {
            Moment latest = now.anchor;
            if (latest == null || latest.anchorAhead == null) {
                return null;
            }
            Moment base = latest;
            for (int i = 0; i < ANCHORS_BACK && base.anchorAhead != null; i++) {
                base = base.anchorAhead;
            }
            return base;
        }

        private int beatOf(Moment anchor) {
            return score.fact(anchor.placeEvent, Score.BEAT);
        }

        int tempoUpper() {
            Moment latest = now.anchor;
            Moment base = tempoBase();
            return base == null || latest == null ? FIRST_TEMPO : latest.clock - base.clock;
        }

        int tempoLower() {
            Moment latest = now.anchor;
            Moment base = tempoBase();
            return base == null || latest == null ? 1 : beatOf(latest) - beatOf(base);
        }

        long timeOfBeat(int beat) {
            Moment latest = now.anchor;
            if (latest == null) {
                return NONE;
            }
            long lower = tempoLower();
            long product = (long) tempoUpper() * (beat - beatOf(latest));
            return lower <= 0 ? latest.clock : latest.clock + Math.floorDiv(product, lower);
        }
    }
}
