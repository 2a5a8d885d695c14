import java.util.NoSuchElementException;
import java.util.function.Supplier;

/**
 * Refused calls, promise by promise: each exception is thrown, of two that apply the one documented first, and
 * nothing has changed by it: all that the object shows then is what one shows that was not asked.
 */
public final class RefusalsTest {
    private static final Class<IllegalArgumentException> ILLEGAL = IllegalArgumentException.class;
    private static final Class<IllegalStateException> UNTIMELY = IllegalStateException.class;
    private static final Class<IndexOutOfBoundsException> OUTSIDE = IndexOutOfBoundsException.class;
    private static final Class<UnsupportedOperationException> UNSUPPORTED = UnsupportedOperationException.class;
    private static final Class<NoSuchElementException> MISSING = NoSuchElementException.class;
    private static final Class<ArithmeticException> ARITHMETIC = ArithmeticException.class;
    private static final Supplier<GongCircle> EMPTY = Made::empty;
    private static final Supplier<GongCircle> IDLE = Made::idle;
    private static final Supplier<GongCircle> BUSY = Made::busy;
    private static final Supplier<GongCircle> FULL = Made::full;

    public static void main(String[] args) {
        notes();
        makingTunes();
        asksOfTunes();
        patterns();
        lines();
        players();
        beginning();
        playing();
        cues();
        time();
        sets();
        bridges();
        pairs();
        modes();
        villages();
        figures();
        Due.end();
    }

    private static void refused(String what, Supplier<GongCircle> made, Class<? extends RuntimeException> want,
            Made.Call call) {
        GongCircle x = made.get();
        Due.fails(what, want, () -> call.of(x));
        String due = Made.shown(made.get());
        Due.is(what + ": what has changed", "nothing", () -> firstChange(due, Made.shown(x)));
    }

    private static String firstChange(String due, String shown) {
        String[] one = due.split(" ");
        String[] other = shown.split(" ");
        for (int i = 0; i < one.length && i < other.length; i++) {
            if (!one[i].equals(other[i])) {
                return "answer " + i + ": " + other[i] + " for " + one[i];
            }
        }
        return one.length == other.length ? "nothing" : other.length + " answers for " + one.length;
    }

    /** An object of which this was asked ahead. */
    private static Supplier<GongCircle> after(Supplier<GongCircle> made, Made.Call call) {
        return () -> {
            GongCircle x = made.get();
            call.of(x);
            return x;
        };
    }

    private static Supplier<GongCircle> noted(Supplier<GongCircle> made, int... told) {
        return after(made, x -> {
            int before = x.clearNotes();
            Due.note(x, told);
            return before;
        });
    }

    private static Supplier<GongCircle> noted(Supplier<GongCircle> made, int count) {
        int[] told = new int[count];
        java.util.Arrays.fill(told, 15);
        return noted(made, told);
    }

    private static void notes() {
        refused("2 figure", BUSY, ILLEGAL, x -> x.addNote(8, 0));
        refused("2 figure below", BUSY, ILLEGAL, x -> x.addNote(-1, 0));
        refused("2 register", BUSY, ILLEGAL, x -> x.addNote(1, 2));
        refused("2 register below", BUSY, ILLEGAL, x -> x.addNote(1, -2));
        refused("2 there are 64", FULL, UNTIMELY, x -> x.addNote(1, 0));
        refused("2 there are 64, a rest", FULL, UNTIMELY, x -> x.addNote(0, 5));
        refused("2 there are 64 and other tunes may come", noted(BUSY, 64), UNTIMELY, x -> x.addNote(2, 1));
        refused("2 figure ahead of 64", FULL, ILLEGAL, x -> x.addNote(8, 0));
        refused("2 register ahead of 64", FULL, ILLEGAL, x -> x.addNote(7, 2));
        refused("3 nothing is noted", EMPTY, UNSUPPORTED, x -> x.repeatNotes());
        refused("3 nothing is noted any more", after(BUSY, x -> x.clearNotes()), UNSUPPORTED, x -> x.repeatNotes());
        refused("3 there would be 66", noted(BUSY, 33), UNTIMELY, x -> x.repeatNotes());
        refused("3 there would be 128", FULL, UNTIMELY, x -> x.repeatNotes());
    }

    private static void makingTunes() {
        Supplier<GongCircle> eight = noted(BUSY, 15, 25, 35, 55, 65, 0, 0, 16);
        refused("5 form", eight, ILLEGAL, x -> x.addTune('x', 's'));
        refused("5 tuning", eight, ILLEGAL, x -> x.addTune('l', 'x'));
        refused("5 too few notes", noted(BUSY, 7), UNSUPPORTED, x -> x.addTune('l', 's'));
        refused("5 too many notes", noted(BUSY, 9), UNSUPPORTED, x -> x.addTune('l', 's'));
        refused("5 no notes", EMPTY, UNSUPPORTED, x -> x.addTune('f', 's'));
        refused("5 free, not by four", noted(BUSY, 10), UNSUPPORTED, x -> x.addTune('f', 's'));
        refused("5 the last one is a rest", noted(BUSY, 15, 15, 15, 15, 15, 15, 15, 0), UNSUPPORTED,
                x -> x.addTune('l', 's'));
        refused("5 figure 4", noted(BUSY, 15, 15, 15, 45, 15, 15, 15, 15), UNSUPPORTED, x -> x.addTune('l', 's'));
        refused("5 figure 7", noted(BUSY, 75, 15, 15, 15, 15, 15, 15, 15), UNSUPPORTED, x -> x.addTune('l', 's'));
        Supplier<GongCircle> sixAndEight = noted(FULL, 8);
        refused("5 there are 6", sixAndEight, UNTIMELY, x -> x.addTune('l', 's'));
        refused("5 form ahead of the notes", EMPTY, ILLEGAL, x -> x.addTune('x', 's'));
        refused("5 tuning ahead of the notes", EMPTY, ILLEGAL, x -> x.addTune('l', 'x'));
        refused("5 form ahead of 6", sixAndEight, ILLEGAL, x -> x.addTune('x', 's'));
        refused("5 tuning ahead of 6", sixAndEight, ILLEGAL, x -> x.addTune('l', 'x'));
        refused("5 too many notes ahead of 6", FULL, UNSUPPORTED, x -> x.addTune('l', 's'));
        refused("5 the last one ahead of 6", noted(FULL, 15, 15, 15, 15, 15, 15, 15, 0), UNSUPPORTED,
                x -> x.addTune('l', 's'));
        refused("5 a figure ahead of 6", noted(FULL, 45, 15, 15, 15, 15, 15, 15, 15), UNSUPPORTED,
                x -> x.addTune('l', 's'));
        refused("5 form ahead of the notes and 6", FULL, ILLEGAL, x -> x.addTune('x', 's'));
    }

    private static void asksOfTunes() {
        refused("6 tune", BUSY, OUTSIDE, x -> x.strokeAt(3, 1));
        refused("6 beat", BUSY, ILLEGAL, x -> x.strokeAt(0, 9));
        refused("6 tune ahead of the beat", BUSY, OUTSIDE, x -> x.strokeAt(3, 0));
        refused("7 tune", BUSY, OUTSIDE, x -> x.noteAt(-1, 1));
        refused("7 beat", BUSY, ILLEGAL, x -> x.noteAt(1, 17));
        refused("7 tune ahead of the beat", BUSY, OUTSIDE, x -> x.noteAt(3, 65));
        refused("8 tune", BUSY, OUTSIDE, x -> x.goalAt(3, 1));
        refused("8 beat", BUSY, ILLEGAL, x -> x.goalAt(2, 13));
        refused("8 tune ahead of the beat", BUSY, OUTSIDE, x -> x.goalAt(-1, 0));
        refused("9 tune", BUSY, OUTSIDE, x -> x.phrases(3));
    }

    private static void patterns() {
        refused("10 tuning", BUSY, ILLEGAL, x -> x.learn('x', 6, 5, 111));
        refused("10 from", BUSY, ILLEGAL, x -> x.learn('s', 4, 5, 111));
        refused("10 to", BUSY, ILLEGAL, x -> x.learn('s', 6, 7, 111));
        refused("10 steps", BUSY, ILLEGAL, x -> x.learn('s', 6, 5, 101));
        refused("10 there are 12", FULL, UNTIMELY, x -> x.learn('p', 7, 5, 111));
        refused("10 there are 12, in place of one there", FULL, UNTIMELY, x -> x.learn('s', 6, 1, 111));
        refused("10 tuning ahead of 12", FULL, ILLEGAL, x -> x.learn('x', 6, 1, 111));
        refused("10 from ahead of 12", FULL, ILLEGAL, x -> x.learn('s', 0, 1, 111));
        refused("10 to ahead of 12", FULL, ILLEGAL, x -> x.learn('s', 6, 4, 111));
        refused("10 steps ahead of 12", FULL, ILLEGAL, x -> x.learn('s', 6, 1, 110));
    }

    private static void lines() {
        refused("11 layer", BUSY, ILLEGAL, x -> x.density(5, 0));
        refused("11 level", BUSY, ILLEGAL, x -> x.density(0, 4));
        refused("12 tune", BUSY, OUTSIDE, x -> x.lineAt(3, 0, 0, 1, 0));
        refused("12 layer", BUSY, ILLEGAL, x -> x.lineAt(0, 5, 0, 1, 0));
        refused("12 level", BUSY, ILLEGAL, x -> x.lineAt(0, 0, 4, 1, 0));
        refused("12 beat", BUSY, ILLEGAL, x -> x.lineAt(0, 0, 0, 9, 0));
        refused("12 stroke", BUSY, MISSING, x -> x.lineAt(0, 0, 0, 1, 1));
        refused("12 tune ahead of the layer", BUSY, OUTSIDE, x -> x.lineAt(3, 5, 0, 1, 0));
        refused("12 tune ahead of the level", BUSY, OUTSIDE, x -> x.lineAt(3, 0, 4, 1, 0));
        refused("12 tune ahead of the beat", BUSY, OUTSIDE, x -> x.lineAt(3, 0, 0, 0, 0));
        refused("12 tune ahead of the stroke", BUSY, OUTSIDE, x -> x.lineAt(3, 0, 0, 1, 1));
        refused("12 layer ahead of the stroke", BUSY, ILLEGAL, x -> x.lineAt(0, 5, 0, 1, 99));
        refused("12 level ahead of the stroke", BUSY, ILLEGAL, x -> x.lineAt(0, 0, -1, 1, 99));
        refused("12 beat ahead of the stroke", BUSY, ILLEGAL, x -> x.lineAt(0, 0, 0, 9, 99));
        refused("12 all at once", BUSY, OUTSIDE, x -> x.lineAt(-1, -1, -1, -1, -1));
    }

    private static void players() {
        refused("13 age", BUSY, ILLEGAL, x -> x.addPlayer(9, 0, 0));
        refused("13 hearing", BUSY, ILLEGAL, x -> x.addPlayer(10, 10, 0));
        refused("13 layers", BUSY, ILLEGAL, x -> x.addPlayer(10, 0, 32));
        refused("13 there are 8", FULL, UNTIMELY, x -> x.addPlayer(99, 9, 31));
        refused("13 age ahead of 8", FULL, ILLEGAL, x -> x.addPlayer(100, 9, 31));
        refused("13 hearing ahead of 8", FULL, ILLEGAL, x -> x.addPlayer(99, -1, 31));
        refused("13 layers ahead of 8", FULL, ILLEGAL, x -> x.addPlayer(99, 9, -1));
        refused("14 player", BUSY, OUTSIDE, x -> x.setAbsent(6, true));
        refused("14 player below", BUSY, OUTSIDE, x -> x.setAbsent(-1, true));
        refused("15 player", BUSY, OUTSIDE, x -> x.seatOf(6));
        refused("16 layer", BUSY, ILLEGAL, x -> x.playerAt(5));
        refused("16 layer, and none has it", EMPTY, ILLEGAL, x -> x.playerAt(-1));
        refused("16 none has it", EMPTY, MISSING, x -> x.playerAt(0));
        refused("16 none has it any more", after(BUSY, x -> x.setAbsent(3, true)), MISSING, x -> x.playerAt(4));
    }

    private static void beginning() {
        refused("17 tune", IDLE, OUTSIDE, x -> x.begin(3));
        refused("17 tune below", IDLE, OUTSIDE, x -> x.begin(-1));
        refused("17 something is played", BUSY, UNTIMELY, x -> x.begin(1));
        refused("17 the same is played", BUSY, UNTIMELY, x -> x.begin(0));
        refused("17 tune ahead of what is played", BUSY, OUTSIDE, x -> x.begin(3));
    }

    private static void playing() {
        refused("18 no beats", BUSY, ILLEGAL, x -> x.play(0));
        refused("18 too many beats", BUSY, ILLEGAL, x -> x.play(257));
        refused("18 nothing is played", IDLE, UNTIMELY, x -> x.play(1));
        refused("18 nothing is played any more", after(FULL, x -> x.play(7)), UNTIMELY, x -> x.play(1));
        refused("18 no beats ahead of nothing played", IDLE, ILLEGAL, x -> x.play(0));
        refused("18 too many ahead of nothing played", IDLE, ILLEGAL, x -> x.play(257));
        refused("19 nothing is played", IDLE, UNTIMELY, x -> x.beat());
        refused("20 nothing is played", IDLE, UNTIMELY, x -> x.tune());
        refused("21 player", BUSY, OUTSIDE, x -> x.levelOf(6));
        refused("21 the player does not play", BUSY, UNTIMELY, x -> x.levelOf(5));
        refused("21 nothing is played", IDLE, UNTIMELY, x -> x.levelOf(0));
        refused("21 player ahead of nothing played", IDLE, OUTSIDE, x -> x.levelOf(6));
    }

    private static void cues() {
        refused("22 level", BUSY, ILLEGAL, x -> x.cueLevel(4, 9));
        refused("22 loudness", BUSY, ILLEGAL, x -> x.cueLevel(3, 10));
        refused("22 nothing is played", IDLE, UNTIMELY, x -> x.cueLevel(3, 9));
        refused("22 level ahead of nothing played", IDLE, ILLEGAL, x -> x.cueLevel(-1, 9));
        refused("22 loudness ahead of nothing played", IDLE, ILLEGAL, x -> x.cueLevel(3, -1));
        refused("23 tune", BUSY, OUTSIDE, x -> x.cueTune(3, 9));
        refused("23 loudness", BUSY, ILLEGAL, x -> x.cueTune(2, 10));
        refused("23 nothing is played", IDLE, UNTIMELY, x -> x.cueTune(2, 9));
        refused("23 tune ahead of the loudness", BUSY, OUTSIDE, x -> x.cueTune(3, 10));
        refused("23 tune ahead of nothing played", IDLE, OUTSIDE, x -> x.cueTune(3, 9));
        refused("23 loudness ahead of nothing played", IDLE, ILLEGAL, x -> x.cueTune(2, 10));
        refused("23 tune ahead of both", IDLE, OUTSIDE, x -> x.cueTune(-1, -1));
        refused("24 loudness", BUSY, ILLEGAL, x -> x.cueEnd(10));
        refused("24 nothing is played", IDLE, UNTIMELY, x -> x.cueEnd(9));
        refused("24 loudness ahead of nothing played", IDLE, ILLEGAL, x -> x.cueEnd(-1));
    }

    private static void time() {
        refused("25 too quick", BUSY, ILLEGAL, x -> x.setTempo(99));
        refused("25 too slow", BUSY, ILLEGAL, x -> x.setTempo(5001));
        refused("26 too little", BUSY, ILLEGAL, x -> x.bend(49));
        refused("26 too much", BUSY, ILLEGAL, x -> x.bend(201));
        refused("30 tune", BUSY, OUTSIDE, x -> x.gongsWithin(3, 0));
        refused("30 time", BUSY, ILLEGAL, x -> x.gongsWithin(0, -1));
        refused("30 tune ahead of the time", BUSY, OUTSIDE, x -> x.gongsWithin(3, 10000000));
    }

    private static void sets() {
        refused("31 tuning", BUSY, ILLEGAL, x -> x.addSet('x', 0));
        refused("31 base", BUSY, ILLEGAL, x -> x.addSet('s', 10000));
        refused("31 there are 4", FULL, UNTIMELY, x -> x.addSet('s', 0));
        refused("31 tuning ahead of 4", FULL, ILLEGAL, x -> x.addSet('x', 0));
        refused("31 base ahead of 4", FULL, ILLEGAL, x -> x.addSet('s', -1));
        refused("32 set", BUSY, OUTSIDE, x -> x.setGap(2, 1, 100));
        refused("32 figure", BUSY, ILLEGAL, x -> x.setGap(0, 4, 100));
        refused("32 too few cents", BUSY, ILLEGAL, x -> x.setGap(0, 1, 29));
        refused("32 too many cents", BUSY, ILLEGAL, x -> x.setGap(1, 7, 501));
        refused("32 set ahead of the figure", BUSY, OUTSIDE, x -> x.setGap(2, 0, 100));
        refused("32 set ahead of the cents", BUSY, OUTSIDE, x -> x.setGap(-1, 1, 501));
        refused("33 set", BUSY, OUTSIDE, x -> x.pitch(2, 1, 0));
        refused("33 figure", BUSY, ILLEGAL, x -> x.pitch(0, 7, 0));
        refused("33 register", BUSY, ILLEGAL, x -> x.pitch(0, 1, 2));
        refused("33 set ahead of the figure", BUSY, OUTSIDE, x -> x.pitch(2, 0, 0));
        refused("33 set ahead of the register", BUSY, OUTSIDE, x -> x.pitch(2, 1, -2));
        refused("34 set", BUSY, OUTSIDE, x -> x.shared(2, 0));
        refused("34 other set", BUSY, OUTSIDE, x -> x.shared(0, 2));
        refused("34 both", BUSY, OUTSIDE, x -> x.shared(-1, 2));
    }

    private static void bridges() {
        refused("35 tune", BUSY, OUTSIDE, x -> x.canGoOn(3, 0));
        refused("35 next", BUSY, OUTSIDE, x -> x.canGoOn(0, 3));
        refused("35 both", BUSY, OUTSIDE, x -> x.canGoOn(-1, 3));
        refused("36 behind the suite", BUSY, MISSING, x -> x.suiteAt(2));
        refused("36 ahead of the suite", BUSY, MISSING, x -> x.suiteAt(-1));
        refused("36 no suite", EMPTY, MISSING, x -> x.suiteAt(0));
    }

    private static void pairs() {
        refused("37 low", BUSY, ILLEGAL, x -> x.addPair(999, 1000));
        refused("37 high", BUSY, ILLEGAL, x -> x.addPair(1000, 100000));
        refused("37 high below low", BUSY, ILLEGAL, x -> x.addPair(2000, 1999));
        refused("37 there are 10", FULL, UNTIMELY, x -> x.addPair(1000, 1000));
        refused("37 low ahead of 10", FULL, ILLEGAL, x -> x.addPair(999, 1000));
        refused("37 high ahead of 10", FULL, ILLEGAL, x -> x.addPair(1000, 999));
        refused("38 pair", BUSY, OUTSIDE, x -> x.beating(3));
        refused("39 pair", BUSY, OUTSIDE, x -> x.file(3, true, 1));
        refused("39 by nothing", BUSY, ILLEGAL, x -> x.file(0, true, 0));
        refused("39 by too much", BUSY, ILLEGAL, x -> x.file(2, true, 100));
        refused("39 below 1000", BUSY, UNSUPPORTED, x -> x.file(2, false, 1));
        refused("39 the high one below the low one", BUSY, UNSUPPORTED, x -> x.file(0, true, 99));
        refused("39 pair ahead of by", BUSY, OUTSIDE, x -> x.file(3, true, 0));
        refused("39 by ahead of below 1000", BUSY, ILLEGAL, x -> x.file(2, false, 100));
        refused("39 by ahead of below the low one", BUSY, ILLEGAL, x -> x.file(0, true, 100));
        refused("40 pair", BUSY, OUTSIDE, x -> x.replace(-1, true, 2000));
        refused("40 key below", BUSY, ILLEGAL, x -> x.replace(1, false, 999));
        refused("40 key above", BUSY, ILLEGAL, x -> x.replace(1, true, 100000));
        refused("40 the high one below the low one", BUSY, UNSUPPORTED, x -> x.replace(1, true, 1500));
        refused("40 the low one above the high one", BUSY, UNSUPPORTED, x -> x.replace(1, false, 2001));
        refused("40 pair ahead of the key", BUSY, OUTSIDE, x -> x.replace(3, true, 999));
        refused("40 key ahead of below the low one", BUSY, ILLEGAL, x -> x.replace(1, true, 999));
        refused("40 key ahead of above the high one", BUSY, ILLEGAL, x -> x.replace(1, false, 100000));
        refused("41 no days", BUSY, ILLEGAL, x -> x.drift(0));
        refused("41 too many days", BUSY, ILLEGAL, x -> x.drift(61));
        refused("42 count", BUSY, ILLEGAL, x -> x.areEven(10000, 0));
        refused("42 within", BUSY, ILLEGAL, x -> x.areEven(0, 1000));
    }

    private static void modes() {
        refused("43 figure", BUSY, ILLEGAL, x -> x.addMode(8, 0, 0));
        refused("43 from", BUSY, ILLEGAL, x -> x.addMode(1, 24, 0));
        refused("43 to", BUSY, ILLEGAL, x -> x.addMode(1, 0, 24));
        refused("43 there are 8", FULL, UNTIMELY, x -> x.addMode(1, 0, 0));
        refused("43 figure ahead of 8", FULL, ILLEGAL, x -> x.addMode(0, 0, 0));
        refused("43 from ahead of 8", FULL, ILLEGAL, x -> x.addMode(1, -1, 0));
        refused("43 to ahead of 8", FULL, ILLEGAL, x -> x.addMode(1, 0, -1));
        refused("44 tune", BUSY, OUTSIDE, x -> x.isProper(3, 0, 0));
        refused("44 mode", BUSY, OUTSIDE, x -> x.isProper(0, 2, 0));
        refused("44 hour", BUSY, ILLEGAL, x -> x.isProper(0, 0, 24));
        refused("44 tune ahead of the hour", BUSY, OUTSIDE, x -> x.isProper(3, 0, 24));
        refused("44 mode ahead of the hour", BUSY, OUTSIDE, x -> x.isProper(0, 2, -1));
    }

    private static void villages() {
        refused("45 tune", BUSY, OUTSIDE, x -> x.vary(3, 0, 2, 1, 0));
        refused("45 village", BUSY, ILLEGAL, x -> x.vary(0, 4, 2, 1, 0));
        refused("45 beat", BUSY, ILLEGAL, x -> x.vary(0, 0, 9, 1, 0));
        refused("45 figure", BUSY, ILLEGAL, x -> x.vary(1, 0, 2, 8, 0));
        refused("45 figure of the tuning", BUSY, ILLEGAL, x -> x.vary(0, 0, 2, 4, 0));
        refused("45 register", BUSY, ILLEGAL, x -> x.vary(0, 0, 2, 1, 2));
        refused("45 register of a rest", BUSY, ILLEGAL, x -> x.vary(0, 0, 3, 0, -2));
        refused("45 a phrase ends there", BUSY, UNSUPPORTED, x -> x.vary(0, 0, 4, 1, 0));
        refused("45 a gong is there", BUSY, UNSUPPORTED, x -> x.vary(1, 0, 16, 1, 0));
        refused("45 tune ahead of the village", BUSY, OUTSIDE, x -> x.vary(3, 4, 2, 1, 0));
        refused("45 tune ahead of the beat", BUSY, OUTSIDE, x -> x.vary(3, 0, 0, 1, 0));
        refused("45 tune ahead of the figure", BUSY, OUTSIDE, x -> x.vary(3, 0, 2, 8, 0));
        refused("45 tune ahead of the register", BUSY, OUTSIDE, x -> x.vary(3, 0, 2, 1, 2));
        refused("45 village ahead of the phrase", BUSY, ILLEGAL, x -> x.vary(0, -1, 4, 1, 0));
        refused("45 figure ahead of the phrase", BUSY, ILLEGAL, x -> x.vary(0, 0, 4, 7, 0));
        refused("45 register ahead of the phrase", BUSY, ILLEGAL, x -> x.vary(0, 0, 8, 1, -2));
        refused("46 tune", BUSY, OUTSIDE, x -> x.villageNote(3, 0, 1));
        refused("46 village", BUSY, ILLEGAL, x -> x.villageNote(0, 4, 1));
        refused("46 beat", BUSY, ILLEGAL, x -> x.villageNote(0, 0, 9));
        refused("46 tune ahead of the village", BUSY, OUTSIDE, x -> x.villageNote(3, 4, 1));
        refused("46 tune ahead of the beat", BUSY, OUTSIDE, x -> x.villageNote(3, 0, 0));
        refused("47 tune", BUSY, OUTSIDE, x -> x.areWrittenAlike(3, 0));
        refused("47 other", BUSY, OUTSIDE, x -> x.areWrittenAlike(0, 3));
        refused("47 both", BUSY, OUTSIDE, x -> x.areWrittenAlike(3, -1));
    }

    private static void figures() {
        refused("49 no gongs", IDLE, ARITHMETIC, x -> x.metShare());
        refused("50 no pairs", EMPTY, ARITHMETIC, x -> x.meanBeating());
    }
}
