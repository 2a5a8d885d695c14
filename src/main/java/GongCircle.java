import java.util.NoSuchElementException;

/**
 * A bronze orchestra: tunes in cycles of strokes, players with seats, sets of
 * pitches, pairs of beating keys, modes and villages. ../shared/DOC.md says
 * what each call answers.
 */
public final class GongCircle {
    private static final int MOST_NOTES = 64;
    private static final int MOST_TUNES = 6;
    private static final int MOST_PATTERNS = 12;
    private static final int MOST_PLAYERS = 8;
    private static final int MOST_SETS = 4;
    private static final int MOST_PAIRS = 10;
    private static final int MOST_MODES = 8;
    private static final int LAYERS = 5;
    private static final int LEVELS = 4;
    private static final int VILLAGES = 4;
    private static final int HIGHEST_FIGURE = 7;
    private static final int REST = 0;
    private static final int LOWEST_KEY = 1000;
    private static final int HIGHEST_KEY = 99999;
    private static final int NONE = -1;

    private final Scale five = new Scale(Scale.FIVE);
    private final Scale seven = new Scale(Scale.SEVEN);
    private final int[] noted = new int[MOST_NOTES];
    private int notedCount = 0;
    private final Tune[] tunes = new Tune[MOST_TUNES];
    private int tuneCount = 0;
    private final Patterns patterns = new Patterns();
    private final Lines lines = new Lines(patterns);
    private final Players players = new Players();
    private final Playing playing = new Playing(players, lines);
    private final GongSet[] sets = new GongSet[MOST_SETS];
    private int setCount = 0;
    private final KeyPair[] pairs = new KeyPair[MOST_PAIRS];
    private int pairCount = 0;
    private int day = 0;
    private final Mode[] modes = new Mode[MOST_MODES];
    private int modeCount = 0;

    public GongCircle() {
    }

    // ---- tunes

    public int addNote(int figure, int register) throws IllegalArgumentException, IllegalStateException {
        requireRange(figure, REST, HIGHEST_FIGURE);
        if (figure != REST) {
            requireRange(register, -1, 1);
        }
        if (notedCount < 0 || notedCount >= noted.length) {
            throw new IllegalStateException("there are 64 notes");
        }
        noted[notedCount] = Scale.tell(figure, register);
        notedCount++;
        return notedCount;
    }

    public int repeatNotes() throws UnsupportedOperationException, IllegalStateException {
        if (notedCount <= 0) {
            throw new UnsupportedOperationException("nothing is noted");
        }
        if (2 * notedCount > noted.length) {
            throw new IllegalStateException("there would be more than 64 notes");
        }
        for (int i = 0; i < notedCount; i++) {
            noted[notedCount + i] = noted[i];
        }
        notedCount = 2 * notedCount;
        return notedCount;
    }

    public int clearNotes() {
        int before = notedCount;
        notedCount = 0;
        return before;
    }

    public int addTune(char form, char tuning)
            throws IllegalArgumentException, UnsupportedOperationException, IllegalStateException {
        if (!Tune.isForm(form)) {
            throw new IllegalArgumentException("there is no such form");
        }
        Scale scale = requireScale(tuning);
        if (!Tune.takesBeats(form, notedCount) || !areNotedFor(scale)) {
            throw new UnsupportedOperationException("what is noted makes no such tune");
        }
        if (tuneCount < 0 || tuneCount >= tunes.length) {
            throw new IllegalStateException("there are 6 tunes");
        }
        tunes[tuneCount] = new Tune(form, scale, noted, notedCount);
        notedCount = 0;
        tuneCount++;
        return tuneCount - 1;
    }

    public char strokeAt(int tune, int beat) throws IndexOutOfBoundsException, IllegalArgumentException {
        Tune asked = requireTune(tune);
        requireBeat(asked, beat);
        return asked.strokeOn(beat);
    }

    public int noteAt(int tune, int beat) throws IndexOutOfBoundsException, IllegalArgumentException {
        Tune asked = requireTune(tune);
        requireBeat(asked, beat);
        return asked.noteOn(beat);
    }

    public int goalAt(int tune, int beat) throws IndexOutOfBoundsException, IllegalArgumentException {
        Tune asked = requireTune(tune);
        requireBeat(asked, beat);
        return asked.goalOf(beat);
    }

    public int phrases(int tune) throws IndexOutOfBoundsException {
        return requireTune(tune).countPhrases();
    }

    public int learn(char tuning, int from, int to, int steps)
            throws IllegalArgumentException, IllegalStateException {
        Scale scale = requireScale(tuning);
        requireFigure(scale, from);
        requireFigure(scale, to);
        if (!Patterns.areSteps(steps)) {
            throw new IllegalArgumentException("there are not three digits of 1 to 9");
        }
        if (patterns.size() >= MOST_PATTERNS) {
            throw new IllegalStateException("there are 12 patterns");
        }
        patterns.keep(scale, from, to, steps);
        return patterns.size();
    }

    public int density(int layer, int level) throws IllegalArgumentException {
        requireRange(layer, 0, LAYERS - 1);
        requireRange(level, 0, LEVELS - 1);
        return Lines.strokesInBeat(layer, level);
    }

    public int lineAt(int tune, int layer, int level, int beat, int stroke)
            throws IndexOutOfBoundsException, IllegalArgumentException, NoSuchElementException {
        Tune asked = requireTune(tune);
        requireRange(layer, 0, LAYERS - 1);
        requireRange(level, 0, LEVELS - 1);
        requireBeat(asked, beat);
        if (stroke < 0 || stroke >= Lines.strokesInBeat(layer, level)) {
            throw new NoSuchElementException("there is no such stroke");
        }
        return lines.strokeOf(asked, layer, level, beat, stroke);
    }

    // ---- players

    public int addPlayer(int age, int hearing, int layers)
            throws IllegalArgumentException, IllegalStateException {
        requireRange(age, 10, 99);
        requireRange(hearing, 0, 9);
        requireRange(layers, 0, 31);
        if (players.size() >= MOST_PLAYERS) {
            throw new IllegalStateException("there are 8 players");
        }
        players.join(new Player(age, hearing, layers));
        return players.size() - 1;
    }

    public boolean setAbsent(int player, boolean is) throws IndexOutOfBoundsException {
        Player asked = requirePlayer(player);
        boolean before = asked.isAbsent;
        asked.isAbsent = is;
        return before;
    }

    public int seatOf(int player) throws IndexOutOfBoundsException {
        requirePlayer(player);
        players.takeSeats();
        return players.seatTaken(player);
    }

    public int playerAt(int layer) throws IllegalArgumentException, NoSuchElementException {
        requireRange(layer, 0, LAYERS - 1);
        players.takeSeats();
        int found = players.whoTook(layer);
        if (found == NONE) {
            throw new NoSuchElementException("none has that seat");
        }
        return found;
    }

    // ---- playing

    public int begin(int tune) throws IndexOutOfBoundsException, IllegalStateException {
        Tune asked = requireTune(tune);
        if (playing.isOn()) {
            throw new IllegalStateException("something is played");
        }
        playing.start(asked, tune);
        return players.countPlaying();
    }

    public int play(int beats) throws IllegalArgumentException, IllegalStateException {
        requireRange(beats, 1, 256);
        requirePlaying();
        int played = 0;
        while (played < beats && playing.isOn()) {
            playing.playBeat();
            played++;
        }
        return played;
    }

    public int beat() throws IllegalStateException {
        requirePlaying();
        return playing.beat;
    }

    public int tune() throws IllegalStateException {
        requirePlaying();
        return playing.number;
    }

    public int levelOf(int player) throws IndexOutOfBoundsException, IllegalStateException {
        Player asked = requirePlayer(player);
        if (!playing.isOn() || !asked.plays()) {
            throw new IllegalStateException("the player does not play");
        }
        return asked.level;
    }

    public int cueLevel(int level, int loudness) throws IllegalArgumentException, IllegalStateException {
        requireRange(level, 0, LEVELS - 1);
        requireRange(loudness, 0, 9);
        requirePlaying();
        players.tellLevel(level, loudness);
        return players.countHearing(loudness);
    }

    public int cueTune(int tune, int loudness)
            throws IndexOutOfBoundsException, IllegalArgumentException, IllegalStateException {
        Tune asked = requireTune(tune);
        requireRange(loudness, 0, 9);
        requirePlaying();
        playing.tellNext(asked, tune, loudness);
        return players.countHearing(loudness);
    }

    public int cueEnd(int loudness) throws IllegalArgumentException, IllegalStateException {
        requireRange(loudness, 0, 9);
        requirePlaying();
        playing.tellNext(null, NONE, loudness);
        return players.countHearing(loudness);
    }

    public int setTempo(int tempo) throws IllegalArgumentException {
        requireRange(tempo, 100, 5000);
        int before = playing.tempo;
        playing.tempo = tempo;
        return before;
    }

    public int bend(int percent) throws IllegalArgumentException {
        requireRange(percent, 50, 200);
        int before = playing.bend;
        playing.bend = percent;
        return before;
    }

    public long elapsed() {
        return playing.elapsed;
    }

    public int gongs() {
        return playing.gongs;
    }

    public int meetings() {
        return playing.meetings;
    }

    public int gongsWithin(int tune, int time) throws IndexOutOfBoundsException, IllegalArgumentException {
        Tune asked = requireTune(tune);
        requireRange(time, 0, 9999999);
        int round = asked.beats() * playing.tempo;
        return round > 0 ? time / round : 0;
    }

    // ---- sets, bridges, pairs

    public int addSet(char tuning, int base) throws IllegalArgumentException, IllegalStateException {
        Scale scale = requireScale(tuning);
        requireRange(base, 0, 9999);
        if (setCount < 0 || setCount >= sets.length) {
            throw new IllegalStateException("there are 4 sets");
        }
        sets[setCount] = new GongSet(scale, base);
        setCount++;
        return setCount - 1;
    }

    public int setGap(int set, int figure, int cents)
            throws IndexOutOfBoundsException, IllegalArgumentException {
        GongSet asked = requireSet(set);
        requireFigure(asked.scale, figure);
        requireRange(cents, 30, 500);
        return asked.exchangeGap(figure, cents);
    }

    public int pitch(int set, int figure, int register)
            throws IndexOutOfBoundsException, IllegalArgumentException {
        GongSet asked = requireSet(set);
        requireFigure(asked.scale, figure);
        requireRange(register, -1, 1);
        return asked.centsOf(figure, register);
    }

    public int shared(int set, int other) throws IndexOutOfBoundsException {
        GongSet one = requireSet(set);
        GongSet another = requireSet(other);
        int bits = 0;
        for (int figure = 1; figure <= HIGHEST_FIGURE; figure++) {
            if (one.shares(figure, another)) {
                bits |= 1 << (figure - 1);
            }
        }
        return bits;
    }

    public boolean canGoOn(int tune, int next) throws IndexOutOfBoundsException {
        Tune one = requireTune(tune);
        Tune another = requireTune(next);
        return isBridged(one, another);
    }

    public int suiteAt(int index) throws NoSuchElementException {
        int found = tuneOfSuite(index, firstOfSuite());
        if (found == NONE) {
            throw new NoSuchElementException("the suite has no such tune");
        }
        return found;
    }

    public int addPair(int low, int high) throws IllegalArgumentException, IllegalStateException {
        requireRange(low, LOWEST_KEY, HIGHEST_KEY);
        requireRange(high, low, HIGHEST_KEY);
        if (pairCount < 0 || pairCount >= pairs.length) {
            throw new IllegalStateException("there are 10 pairs");
        }
        pairs[pairCount] = new KeyPair(low, high);
        pairCount++;
        return pairCount - 1;
    }

    public int beating(int pair) throws IndexOutOfBoundsException {
        return requirePair(pair).apart();
    }

    public int file(int pair, boolean isHigh, int by)
            throws IndexOutOfBoundsException, IllegalArgumentException, UnsupportedOperationException {
        KeyPair asked = requirePair(pair);
        requireRange(by, 1, 99);
        int filed = asked.keyOf(isHigh) - by;
        if (filed < LOWEST_KEY || !asked.wouldStand(isHigh, filed)) {
            throw new UnsupportedOperationException("the key would be too low");
        }
        asked.putKey(isHigh, filed);
        return filed;
    }

    public int replace(int pair, boolean isHigh, int key)
            throws IndexOutOfBoundsException, IllegalArgumentException, UnsupportedOperationException {
        KeyPair asked = requirePair(pair);
        requireRange(key, LOWEST_KEY, HIGHEST_KEY);
        if (!asked.wouldStand(isHigh, key)) {
            throw new UnsupportedOperationException("the high key would be below the low one");
        }
        int before = asked.keyOf(isHigh);
        asked.putKey(isHigh, key);
        return before;
    }

    public int drift(int days) throws IllegalArgumentException {
        requireRange(days, 1, 60);
        for (int i = 0; i < days; i++) {
            day++;
            driftToday();
        }
        return day;
    }

    public boolean areEven(int count, int within) throws IllegalArgumentException {
        requireRange(count, 0, 9999);
        requireRange(within, 0, 999);
        for (int i = 0; i < pairCount && i < pairs.length; i++) {
            KeyPair pair = pairs[i];
            if (pair != null && Math.abs(pair.apart() - count) > within) {
                return false;
            }
        }
        return true;
    }

    // ---- modes, villages

    public int addMode(int figure, int from, int to) throws IllegalArgumentException, IllegalStateException {
        requireRange(figure, 1, HIGHEST_FIGURE);
        requireRange(from, 0, 23);
        requireRange(to, 0, 23);
        if (modeCount < 0 || modeCount >= modes.length) {
            throw new IllegalStateException("there are 8 modes");
        }
        modes[modeCount] = new Mode(figure, from, to);
        modeCount++;
        return modeCount - 1;
    }

    public boolean isProper(int tune, int mode, int hour)
            throws IndexOutOfBoundsException, IllegalArgumentException {
        Tune asked = requireTune(tune);
        Mode asking = requireMode(mode);
        requireRange(hour, 0, 23);
        return asking.hasHour(hour) && asking.figure == asked.lastFigure();
    }

    public int vary(int tune, int village, int beat, int figure, int register)
            throws IndexOutOfBoundsException, IllegalArgumentException, UnsupportedOperationException {
        Tune asked = requireTune(tune);
        requireRange(village, 0, VILLAGES - 1);
        requireBeat(asked, beat);
        if (figure != REST) {
            requireFigure(asked.scale, figure);
        }
        requireRange(register, -1, 1);
        if (asked.endsPhrase(beat)) {
            throw new UnsupportedOperationException("a phrase ends there");
        }
        return asked.exchangeVillageNote(village, beat, Scale.tell(figure, register));
    }

    public int villageNote(int tune, int village, int beat)
            throws IndexOutOfBoundsException, IllegalArgumentException {
        Tune asked = requireTune(tune);
        requireRange(village, 0, VILLAGES - 1);
        requireBeat(asked, beat);
        return asked.noteIn(village, beat);
    }

    public boolean areWrittenAlike(int tune, int other) throws IndexOutOfBoundsException {
        Tune one = requireTune(tune);
        Tune another = requireTune(other);
        return one.isWrittenAs(another);
    }

    // ---- figures

    public long checksum() {
        long sum = 7;
        for (int i = 0; i < tuneCount && i < tunes.length; i++) {
            if (tunes[i] != null) {
                sum = tunes[i].addedTo(sum);
            }
        }
        return sum;
    }

    public float metShare() throws ArithmeticException {
        if (playing.gongs <= 0) {
            throw new ArithmeticException("there were no gongs");
        }
        return (float) playing.meetings / (float) playing.gongs;
    }

    public double meanBeating() throws ArithmeticException {
        if (pairCount <= 0) {
            throw new ArithmeticException("there are no pairs");
        }
        int sum = 0;
        for (int i = 0; i < pairCount && i < pairs.length; i++) {
            if (pairs[i] != null) {
                sum += pairs[i].apart();
            }
        }
        return (double) sum / (double) pairCount;
    }

    public boolean isSound() {
        for (int i = 0; i < tuneCount && i < tunes.length; i++) {
            if (tunes[i] != null && !areLinesSound(tunes[i])) {
                return false;
            }
        }
        for (int i = 0; i < pairCount && i < pairs.length; i++) {
            if (pairs[i] != null && pairs[i].apart() < 0) {
                return false;
            }
        }
        players.takeSeats();
        return players.areSeatsTakenOnce();
    }

    // ---- what calls ask for before they answer

    private static void requireRange(int number, int least, int most) {
        if (number < least || number > most) {
            throw new IllegalArgumentException("a number is out of range");
        }
    }

    private static void requireBeat(Tune tune, int beat) {
        if (beat < 1 || beat > tune.beats()) {
            throw new IllegalArgumentException("there is no such beat");
        }
    }

    private static void requireFigure(Scale scale, int figure) {
        if (!scale.has(figure)) {
            throw new IllegalArgumentException("the figure is not of the tuning");
        }
    }

    private Scale requireScale(char tuning) {
        if (tuning == 's') {
            return five;
        }
        if (tuning == 'p') {
            return seven;
        }
        throw new IllegalArgumentException("there is no such tuning");
    }

    private Tune requireTune(int number) {
        if (number < 0 || number >= tunes.length || tunes[number] == null) {
            throw new IndexOutOfBoundsException("there is no such tune");
        }
        return tunes[number];
    }

    private Player requirePlayer(int number) {
        Player player = players.numbered(number);
        if (player == null) {
            throw new IndexOutOfBoundsException("there is no such player");
        }
        return player;
    }

    private void requirePlaying() {
        if (!playing.isOn()) {
            throw new IllegalStateException("nothing is played");
        }
    }

    private GongSet requireSet(int number) {
        if (number < 0 || number >= sets.length || sets[number] == null) {
            throw new IndexOutOfBoundsException("there is no such set");
        }
        return sets[number];
    }

    private KeyPair requirePair(int number) {
        if (number < 0 || number >= pairs.length || pairs[number] == null) {
            throw new IndexOutOfBoundsException("there is no such pair");
        }
        return pairs[number];
    }

    private Mode requireMode(int number) {
        if (number < 0 || number >= modes.length || modes[number] == null) {
            throw new IndexOutOfBoundsException("there is no such mode");
        }
        return modes[number];
    }

    // ---- parts of calls

    private boolean areNotedFor(Scale scale) {
        if (notedCount < 1 || notedCount > noted.length || noted[notedCount - 1] == REST) {
            return false;
        }
        for (int i = 0; i < notedCount; i++) {
            if (noted[i] != REST && !scale.has(Scale.figureOf(noted[i]))) {
                return false;
            }
        }
        return true;
    }

    private boolean isBridged(Tune one, Tune another) {
        int figure = one.lastFigure();
        return figure == another.lastFigure() && (one.scale == another.scale || isSharedByTunings(figure));
    }

    private boolean isSharedByTunings(int figure) {
        for (int i = 0; i < setCount && i < sets.length; i++) {
            for (int j = 0; j < i; j++) {
                GongSet one = sets[i];
                GongSet another = sets[j];
                if (one != null && another != null && one.scale != another.scale && one.shares(figure, another)) {
                    return true;
                }
            }
        }
        return false;
    }

    // Tunes that can go on to one another fall into groups in which each can go on to
    // each, so the longest suite is the greatest group in the order of its numbers.
    private int firstOfSuite() {
        int first = NONE;
        int most = 0;
        for (int i = 0; i < tuneCount && i < tunes.length; i++) {
            int count = 0;
            for (int j = 0; j < tuneCount && j < tunes.length; j++) {
                if (tunes[i] != null && tunes[j] != null && isBridged(tunes[i], tunes[j])) {
                    count++;
                }
            }
            if (count > most) {
                most = count;
                first = i;
            }
        }
        return first;
    }

    private int tuneOfSuite(int index, int first) {
        if (index < 0 || first < 0 || first >= tunes.length || tunes[first] == null) {
            return NONE;
        }
        int ahead = 0;
        for (int i = first; i < tuneCount && i < tunes.length; i++) {
            if (tunes[i] != null && isBridged(tunes[first], tunes[i])) {
                if (ahead == index) {
                    return i;
                }
                ahead++;
            }
        }
        return NONE;
    }

    private void driftToday() {
        for (int i = 0; i < pairCount && i < pairs.length; i++) {
            if (pairs[i] != null && day % (i + 2) == 0) {
                pairs[i].sinkLow();
            }
        }
    }

    private boolean areLinesSound(Tune tune) {
        for (int level = 0; level < LEVELS; level++) {
            for (int beat = 4; beat <= tune.beats(); beat += 4) {
                if (lines.lastStrokeOf(tune, Lines.RUNS, level, beat) != tune.goalOf(beat)) {
                    return false;
                }
            }
            int last = lines.lastStrokeOf(tune, Lines.WALKING, level, tune.beats());
            if (Scale.figureOf(last) != tune.lastFigure()) {
                return false;
            }
        }
        return true;
    }

    /** The figures of a tuning, their places, and how notes are told. */
    private static final class Scale {
        private static final int[] FIVE = {1, 2, 3, 5, 6};
        private static final int[] SEVEN = {1, 2, 3, 4, 5, 6, 7};

        private final int[] figures;
        private final int size;
        private final int lowest;
        private final int highest;

        Scale(int[] figures) {
            this.figures = figures;
            this.size = figures.length;
            this.lowest = -size;
            this.highest = 2 * size - 1;
        }

        static int tell(int figure, int register) {
            return figure == REST ? REST : 10 * figure + 5 + register;
        }

        static int figureOf(int told) {
            return told / 10;
        }

        static int registerOf(int told) {
            return told == REST ? 0 : told % 10 - 5;
        }

        int indexOf(int figure) {
            for (int i = 0; i < figures.length; i++) {
                if (figures[i] == figure) {
                    return i;
                }
            }
            return NONE;
        }

        boolean has(int figure) {
            return indexOf(figure) != NONE;
        }

        int placeOf(int told) {
            return registerOf(told) * size + indexOf(figureOf(told));
        }

        // A place outside the registers is held within the lowest and the highest one.
        int tellPlace(int place) {
            int held = Math.max(lowest, Math.min(highest, place));
            int register = held < 0 ? -1 : held < size ? 0 : 1;
            int index = held - register * size;
            return index < 0 || index >= figures.length ? REST : tell(figures[index], register);
        }

        int placeBeside(int place) {
            return place < highest ? place + 1 : place - 1;
        }
    }

    /** A skeleton tune with its form, its tuning and what villages make of it. */
    private static final class Tune {
        private final char form;
        private final Scale scale;
        private final int[] notes;
        private final int[] goals;
        private final int[] villageNotes;

        Tune(char form, Scale scale, int[] noted, int count) {
            int beats = Math.max(0, Math.min(count, noted.length));
            this.form = form;
            this.scale = scale;
            this.notes = new int[beats];
            this.goals = new int[beats / 4];
            this.villageNotes = new int[VILLAGES * beats];
            System.arraycopy(noted, 0, notes, 0, beats);
            for (int i = 0; i < VILLAGES; i++) {
                System.arraycopy(noted, 0, villageNotes, i * beats, beats);
            }
            for (int i = 0; i < goals.length; i++) {
                goals[i] = lastNoteUpTo(4 * i + 4);
            }
        }

        static boolean isForm(char form) {
            return form == 'l' || form == 'm' || form == 'g' || form == 'o' || form == 'f';
        }

        static boolean takesBeats(char form, int beats) {
            if (form == 'f') {
                return beats >= 8 && beats <= 64 && beats % 4 == 0;
            }
            return beats == (form == 'l' ? 8 : form == 'm' ? 16 : form == 'g' ? 32 : 64);
        }

        int beats() {
            return notes.length;
        }

        int noteOn(int beat) {
            return beat < 1 || beat > notes.length ? REST : notes[beat - 1];
        }

        int lastFigure() {
            return Scale.figureOf(noteOn(notes.length));
        }

        int beatsBetweenHung() {
            return form == 'o' ? 16 : form == 'm' || form == 'g' ? 8 : 4;
        }

        boolean endsPhrase(int beat) {
            return beat == notes.length || (beat & (beatsBetweenHung() - 1)) == 0;
        }

        int countPhrases() {
            int count = 0;
            for (int beat = 1; beat <= notes.length; beat++) {
                if (endsPhrase(beat)) {
                    count++;
                }
            }
            return count;
        }

        char strokeOn(int beat) {
            if (beat == notes.length) {
                return 'G';
            }
            if (endsPhrase(beat)) {
                return 'N';
            }
            if (isKettle(beat)) {
                return 'P';
            }
            return isSmall(beat) ? 'T' : '-';
        }

        private boolean isKettle(int beat) {
            if (form == 'o' || form == 'f') {
                return false;
            }
            int hung = beatsBetweenHung();
            return beat > hung && (beat & (hung - 1)) == hung / 2;
        }

        private boolean isSmall(int beat) {
            if (form == 'l') {
                return (beat & 1) == 1;
            }
            if (form == 'f') {
                return (beat & 1) == 0;
            }
            return form == 'o' ? (beat & 7) == 4 : (beat & 3) == 2;
        }

        private int lastNoteUpTo(int beat) {
            for (int back = 0; back < notes.length; back++) {
                int at = beat - back;
                int note = noteOn(at < 1 ? at + notes.length : at);
                if (note != REST) {
                    return note;
                }
            }
            return REST;
        }

        int goalOf(int beat) {
            int four = (beat - 1) / 4;
            return beat < 1 || four >= goals.length ? REST : goals[four];
        }

        int goalAheadOf(int beat) {
            return goalOf(beat > 4 ? beat - 4 : beat - 4 + notes.length);
        }

        int nextNoteFrom(int beat) {
            for (int on = 0; on < notes.length; on++) {
                int at = beat + on;
                int note = noteOn(at > notes.length ? at - notes.length : at);
                if (note != REST) {
                    return note;
                }
            }
            return REST;
        }

        int noteIn(int village, int beat) {
            int index = village * notes.length + beat - 1;
            return index < 0 || index >= villageNotes.length ? REST : villageNotes[index];
        }

        int exchangeVillageNote(int village, int beat, int told) {
            int before = noteIn(village, beat);
            int index = village * notes.length + beat - 1;
            if (index >= 0 && index < villageNotes.length) {
                villageNotes[index] = told;
            }
            return before;
        }

        boolean isWrittenAs(Tune other) {
            if (form != other.form || scale != other.scale || notes.length != other.notes.length) {
                return false;
            }
            for (int beat = 1; beat <= notes.length; beat++) {
                if (Scale.figureOf(noteOn(beat)) != Scale.figureOf(other.noteOn(beat))) {
                    return false;
                }
            }
            return true;
        }

        long addedTo(long before) {
            long sum = 31 * before + notes.length;
            for (int beat = 1; beat <= notes.length; beat++) {
                sum = 31 * sum + noteOn(beat);
            }
            for (int beat = 4; beat <= notes.length; beat += 4) {
                sum = 31 * sum + goalOf(beat);
            }
            return sum;
        }
    }

    /** The patterns that were learnt for the ends of runs. */
    private static final class Patterns {
        private final int[] stepsOfFive = new int[64];
        private final int[] stepsOfSeven = new int[64];
        private int count = 0;

        static boolean areSteps(int steps) {
            return steps >= 111 && steps <= 999 && steps % 10 != 0 && steps / 10 % 10 != 0;
        }

        int size() {
            return count;
        }

        private int[] stepsOf(Scale scale) {
            return scale.size == 5 ? stepsOfFive : stepsOfSeven;
        }

        private static int index(int from, int to) {
            return 8 * from + to;
        }

        void keep(Scale scale, int from, int to, int steps) {
            int[] kept = stepsOf(scale);
            int index = index(from, to);
            if (index < 0 || index >= kept.length) {
                return;
            }
            if (kept[index] == 0) {
                count++;
            }
            kept[index] = steps;
        }

        // 0 for none: steps that were learnt have three digits.
        int stepsFor(Scale scale, int from, int to) {
            int[] kept = stepsOf(scale);
            int index = index(from, to);
            return index < 0 || index >= kept.length ? 0 : kept[index];
        }

        static int stepBeforeEnd(int steps, int back) {
            if (back == 1) {
                return steps % 10 - 5;
            }
            if (back == 2) {
                return steps / 10 % 10 - 5;
            }
            return back == 3 ? steps / 100 - 5 : 0;
        }
    }

    /** What the layers make of a tune. */
    private static final class Lines {
        private static final int SKELETON = 0;
        private static final int WALKING = 1;
        private static final int ANSWERING = 2;
        private static final int OCTAVES = 3;
        private static final int RUNS = 4;

        private final Patterns patterns;

        Lines(Patterns patterns) {
            this.patterns = patterns;
        }

        static int strokesInBeat(int layer, int level) {
            if (layer == SKELETON || layer == OCTAVES) {
                return 1;
            }
            return (layer == WALKING ? 2 : 4) << level;
        }

        int strokeOf(Tune tune, int layer, int level, int beat, int stroke) {
            if (layer == WALKING) {
                return walkingStroke(tune, beat, stroke);
            }
            if (layer == ANSWERING) {
                return answeringStroke(tune, beat, stroke);
            }
            if (layer == OCTAVES) {
                return octaveStroke(tune, beat);
            }
            return layer == RUNS ? runStroke(tune, level, beat, stroke) : tune.noteOn(beat);
        }

        int lastStrokeOf(Tune tune, int layer, int level, int beat) {
            return strokeOf(tune, layer, level, beat, strokesInBeat(layer, level) - 1);
        }

        boolean meetGong(Tune tune, int layer, int level) {
            if (layer == OCTAVES) {
                return true;
            }
            int last = strokeOf(tune, layer, level, tune.beats(), strokesInBeat(layer, level) - 1);
            int figure = tune.lastFigure();
            if (Scale.figureOf(last) == figure) {
                return true;
            }
            int place = tune.scale.placeOf(last);
            return layer == ANSWERING && (Scale.figureOf(tune.scale.tellPlace(place - 1)) == figure
                    || Scale.figureOf(tune.scale.tellPlace(place + 1)) == figure);
        }

        private static int walkingStroke(Tune tune, int beat, int stroke) {
            int first = (beat & 1) == 1 ? beat : beat - 1;
            boolean isFirst = (stroke & 1) == 0;
            int own = tune.noteOn(isFirst ? first : first + 1);
            int other = tune.noteOn(isFirst ? first + 1 : first);
            if (own != REST) {
                return own;
            }
            return other != REST ? other : tune.goalOf(beat);
        }

        private static int answeringStroke(Tune tune, int beat, int stroke) {
            int note = tune.nextNoteFrom(beat);
            if ((stroke & 1) == 0) {
                return note;
            }
            Scale scale = tune.scale;
            return scale.tellPlace(scale.placeBeside(scale.placeOf(note)));
        }

        private static int octaveStroke(Tune tune, int beat) {
            if ((beat & 1) == 1) {
                return REST;
            }
            int goal = tune.goalOf(beat);
            return Scale.tell(Scale.figureOf(goal), Scale.registerOf(goal) == 1 ? -1 : 1);
        }

        private int runStroke(Tune tune, int level, int beat, int stroke) {
            int strokes = strokesInBeat(RUNS, level);
            int beatsLeft = 3 - (beat - 1) % 4;
            int back = beatsLeft * strokes + strokes - 1 - stroke;
            int goal = tune.goalOf(beat);
            int ahead = tune.goalAheadOf(beat);
            Scale scale = tune.scale;
            int steps = patterns.stepsFor(scale, Scale.figureOf(ahead), Scale.figureOf(goal));
            if (back < 4 && steps != 0) {
                return scale.tellPlace(scale.placeOf(goal) + Patterns.stepBeforeEnd(steps, back));
            }
            int aheadPlace = scale.placeOf(ahead);
            int besidePlace = scale.placeBeside(aheadPlace);
            return scale.tellPlace(placeInRun(scale.placeOf(goal), aheadPlace, besidePlace, back));
        }

        private static int placeInRun(int goal, int ahead, int beside, int back) {
            int way = Math.abs(goal - ahead);
            if (back <= way) {
                return goal < ahead ? goal + back : goal - back;
            }
            return (back - way) % 2 == 0 ? ahead : beside;
        }
    }

    /** A player, and what that player plays. */
    private static final class Player {
        private final int age;
        private final int hearing;
        private final int layers;
        private boolean isAbsent = false;
        private int layerPlayed = NONE;
        private int level = 0;
        private int levelTold = 0;
        private int phrasesUntilTold = 0;

        Player(int age, int hearing, int layers) {
            this.age = age;
            this.hearing = hearing;
            this.layers = layers;
        }

        boolean knows(int layer) {
            return (layers >> layer & 1) == 1;
        }

        boolean plays() {
            return layerPlayed != NONE;
        }

        boolean hears(int loudness) {
            return loudness + hearing >= 10;
        }

        void start(int layer) {
            layerPlayed = layer;
            level = 0;
            phrasesUntilTold = 0;
        }

        void hearLevel(int told, int loudness) {
            levelTold = told;
            phrasesUntilTold = hears(loudness) ? 1 : 2;
        }

        void endPhrase() {
            if (phrasesUntilTold == 0) {
                return;
            }
            phrasesUntilTold--;
            if (phrasesUntilTold == 0) {
                level = levelTold;
            }
        }
    }

    /** All players, their seats as they would be now, and those who play. */
    private static final class Players {
        private final Player[] all = new Player[MOST_PLAYERS];
        private final int[] seats = new int[MOST_PLAYERS];
        private int count = 0;

        int size() {
            return count;
        }

        void join(Player player) {
            if (count >= 0 && count < all.length) {
                all[count] = player;
                count++;
            }
        }

        Player numbered(int number) {
            return number < 0 || number >= all.length ? null : all[number];
        }

        void takeSeats() {
            int asked = 0;
            int taken = 0;
            for (int i = 0; i < seats.length; i++) {
                seats[i] = NONE;
            }
            for (int turn = 0; turn < count && turn < seats.length; turn++) {
                int oldest = oldestBut(asked);
                if (oldest < 0 || oldest >= seats.length) {
                    return;
                }
                asked |= 1 << oldest;
                seats[oldest] = lowestFree(numbered(oldest), taken);
                if (seats[oldest] != NONE) {
                    taken |= 1 << seats[oldest];
                }
            }
        }

        private int oldestBut(int asked) {
            int found = NONE;
            int most = 0;
            for (int i = 0; i < count && i < all.length; i++) {
                Player player = all[i];
                if (player != null && !player.isAbsent && (asked >> i & 1) == 0 && player.age > most) {
                    found = i;
                    most = player.age;
                }
            }
            return found;
        }

        private static int lowestFree(Player player, int taken) {
            for (int layer = 0; layer < LAYERS; layer++) {
                if (player != null && player.knows(layer) && (taken >> layer & 1) == 0) {
                    return layer;
                }
            }
            return NONE;
        }

        int seatTaken(int number) {
            return number < 0 || number >= seats.length ? NONE : seats[number];
        }

        int whoTook(int layer) {
            for (int i = 0; i < seats.length; i++) {
                if (seats[i] == layer) {
                    return i;
                }
            }
            return NONE;
        }

        boolean areSeatsTakenOnce() {
            for (int i = 0; i < seats.length; i++) {
                if (seats[i] != NONE && whoTook(seats[i]) != i) {
                    return false;
                }
            }
            return true;
        }

        void start() {
            takeSeats();
            for (int i = 0; i < count && i < all.length; i++) {
                if (all[i] != null) {
                    all[i].start(seatTaken(i));
                }
            }
        }

        // Null for those who do not play.
        Player playingAs(int number) {
            Player player = numbered(number);
            return player != null && player.plays() ? player : null;
        }

        int countPlaying() {
            int playing = 0;
            for (int i = 0; i < count; i++) {
                if (playingAs(i) != null) {
                    playing++;
                }
            }
            return playing;
        }

        int countHearing(int loudness) {
            int hearing = 0;
            for (int i = 0; i < count; i++) {
                Player player = playingAs(i);
                if (player != null && player.hears(loudness)) {
                    hearing++;
                }
            }
            return hearing;
        }

        void tellLevel(int level, int loudness) {
            for (int i = 0; i < count; i++) {
                Player player = playingAs(i);
                if (player != null) {
                    player.hearLevel(level, loudness);
                }
            }
        }

        void endPhrase() {
            for (int i = 0; i < count; i++) {
                Player player = playingAs(i);
                if (player != null) {
                    player.endPhrase();
                }
            }
        }

        // NONE if nobody plays.
        int leastLevel() {
            int least = NONE;
            for (int i = 0; i < count; i++) {
                Player player = playingAs(i);
                if (player != null && (least == NONE || player.level < least)) {
                    least = player.level;
                }
            }
            return least;
        }

        boolean areAtLevel(int level) {
            for (int i = 0; i < count; i++) {
                Player player = playingAs(i);
                if (player != null && player.level != level) {
                    return false;
                }
            }
            return true;
        }
    }

    /** What is played: the tune, its beat, the cue for what comes next, and the time. */
    private static final class Playing {
        private final Players players;
        private final Lines lines;
        private Tune tune = null;
        private int number = NONE;
        private int beat = 0;
        private Tune nextTune = null;
        private int nextNumber = NONE;
        private int gongsUntilNext = 0;
        private int tempo = 1000;
        private int bend = 100;
        private long elapsed = 0;
        private int gongs = 0;
        private int meetings = 0;

        Playing(Players players, Lines lines) {
            this.players = players;
            this.lines = lines;
        }

        boolean isOn() {
            return tune != null;
        }

        void start(Tune begun, int numbered) {
            tune = begun;
            number = numbered;
            beat = 0;
            gongsUntilNext = 0;
            players.start();
        }

        // No tune stands for the end.
        void tellNext(Tune told, int numbered, int loudness) {
            nextTune = told;
            nextNumber = numbered;
            boolean isHeard = 2 * players.countHearing(loudness) >= players.countPlaying();
            gongsUntilNext = isHeard ? 1 : 2;
        }

        void playBeat() {
            if (tune == null) {
                return;
            }
            beat = beat < tune.beats() ? beat + 1 : 1;
            elapsed += lengthOfBeat();
            boolean isGong = beat == tune.beats();
            if (isGong) {
                gongs++;
                // Asked ahead of the cues, which change the levels of the beats to come.
                meetings += isMet(tune) ? 1 : 0;
            }
            if (tune.endsPhrase(beat)) {
                players.endPhrase();
            }
            if (isGong) {
                takeNext();
            }
        }

        private long lengthOfBeat() {
            int doublings = Math.max(0, players.leastLevel());
            return ((long) tempo << doublings) * bend / 100;
        }

        private void takeNext() {
            if (gongsUntilNext == 0) {
                return;
            }
            gongsUntilNext--;
            if (gongsUntilNext == 0) {
                tune = nextTune;
                number = nextNumber;
                beat = 0;
            }
        }

        private boolean isMet(Tune met) {
            int level = players.leastLevel();
            if (level == NONE) {
                return true;
            }
            if (!players.areAtLevel(level)) {
                return false;
            }
            for (int i = 0; i < players.size(); i++) {
                Player player = players.playingAs(i);
                if (player != null && !lines.meetGong(met, player.layerPlayed, level)) {
                    return false;
                }
            }
            return true;
        }
    }

    /** A set of a tuning with its base and gaps. */
    private static final class GongSet {
        private final Scale scale;
        private final int base;
        private final int[] gaps;

        GongSet(Scale scale, int base) {
            this.scale = scale;
            this.base = base;
            int count = Math.max(1, scale.size);
            this.gaps = new int[count];
            for (int i = 0; i < count; i++) {
                gaps[i] = 1200 / count;
            }
        }

        int exchangeGap(int figure, int cents) {
            int index = scale.indexOf(figure);
            if (index < 0 || index >= gaps.length) {
                return 0;
            }
            int before = gaps[index];
            gaps[index] = cents;
            return before;
        }

        int centsOf(int figure, int register) {
            int index = scale.indexOf(figure);
            int below = 0;
            int octave = 0;
            for (int i = 0; i < gaps.length; i++) {
                octave += gaps[i];
                below += i < index ? gaps[i] : 0;
            }
            return base + below + register * octave;
        }

        boolean shares(int figure, GongSet other) {
            return scale.has(figure) && other.scale.has(figure) && centsOf(figure, 0) == other.centsOf(figure, 0);
        }
    }

    /** Two keys that beat against each other. */
    private static final class KeyPair {
        private int low;
        private int high;

        KeyPair(int low, int high) {
            this.low = low;
            this.high = high;
        }

        int apart() {
            return high - low;
        }

        int keyOf(boolean isHigh) {
            return isHigh ? high : low;
        }

        boolean wouldStand(boolean isHigh, int key) {
            return isHigh ? key >= low : key <= high;
        }

        void putKey(boolean isHigh, int key) {
            if (isHigh) {
                high = key;
            } else {
                low = key;
            }
        }

        void sinkLow() {
            if (low > LOWEST_KEY) {
                low--;
            }
        }
    }

    /** A last figure, and the hours that go with it. */
    private static final class Mode {
        private final int figure;
        private final int from;
        private final int to;

        Mode(int figure, int from, int to) {
            this.figure = figure;
            this.from = from;
            this.to = to;
        }

        boolean hasHour(int hour) {
            if (from <= to) {
                return hour >= from && hour <= to;
            }
            return hour >= from || hour <= to;
        }
    }
}
