import java.util.function.Supplier;

/**
 * Too small and too large, promise by promise: of each number the least and the greatest that the document allows
 * are answered, and the next one on either side, and the farthest ones, are refused. Each is asked of its own object.
 */
public final class RangesTest {
    private static final Supplier<GongCircle> IDLE = Made::idle;
    private static final Supplier<GongCircle> BUSY = Made::busy;

    private interface Asked {
        Object of(GongCircle x, int number);
    }

    private interface Told {
        Object of(GongCircle x, char letter);
    }

    public static void main(String[] args) {
        notes();
        forms();
        tuneNumbers();
        beats();
        steps();
        allSteps();
        densities();
        layersAndLevelsOfLines();
        strokesOfLines();
        places();
        players();
        hearing();
        playing();
        half();
        time();
        sets();
        bridges();
        pairs();
        keys();
        days();
        even();
        modes();
        villages();
        figuresOfTunings();
        Due.end();
    }

    private static void range(String what, Supplier<GongCircle> made, int least, Object dueLeast, int most,
            Object dueMost, Asked call) {
        Due.is(what + " " + least, dueLeast, () -> call.of(made.get(), least));
        Due.is(what + " " + most, dueMost, () -> call.of(made.get(), most));
        for (int number : new int[] {least - 1, most + 1, Integer.MIN_VALUE, Integer.MAX_VALUE, ~most, -least - 1000}) {
            Due.isIllegal(what + " " + number, () -> call.of(made.get(), number));
        }
    }

    /** Things that are numbered from 0. */
    private static void numbered(String what, Supplier<GongCircle> made, int count, Object dueFirst, Object dueLast,
            Asked call) {
        Due.is(what + " 0", dueFirst, () -> call.of(made.get(), 0));
        Due.is(what + " " + (count - 1), dueLast, () -> call.of(made.get(), count - 1));
        for (int number : new int[] {-1, count, Integer.MIN_VALUE, Integer.MAX_VALUE, 1 << 16}) {
            Due.isOutside(what + " " + number, () -> call.of(made.get(), number));
        }
    }

    /** The figures from -2 to 9 with which a call is not illegal. */
    private static void figures(String what, Supplier<GongCircle> made, String due, Asked call) {
        StringBuilder taken = new StringBuilder();
        for (int figure = -2; figure <= 9; figure++) {
            try {
                call.of(made.get(), figure);
                taken.append(figure);
            } catch (IllegalArgumentException e) {
                // not one of them
            }
        }
        Due.is(what, due, () -> taken.toString());
        for (int figure : new int[] {Integer.MIN_VALUE, Integer.MAX_VALUE, 11, 15, 65536 + 1}) {
            Due.isIllegal(what + ", not " + figure, () -> call.of(made.get(), figure));
        }
    }

    /** The letters, of all there are, with which a call is not illegal. */
    private static void letters(String what, String due, Told call) {
        StringBuilder taken = new StringBuilder();
        for (int letter = Character.MIN_VALUE; letter <= Character.MAX_VALUE; letter++) {
            try {
                call.of(new GongCircle(), (char) letter);
                taken.append((char) letter);
            } catch (IllegalArgumentException e) {
                // not one of them
            } catch (UnsupportedOperationException e) {
                taken.append((char) letter);
            }
        }
        Due.is(what, due, () -> taken.toString());
    }

    private static GongCircle tuneOf(char form, int beats) {
        GongCircle x = new GongCircle();
        Due.tune(x, form, 'p', beats, 14, 76);
        return x;
    }

    private static void notes() {
        range("2 a figure", IDLE, 0, 4, 7, 4, (x, figure) -> x.addNote(figure, 0));
        for (int i = 1; i <= 7; i++) {
            int figure = i;
            range("2 a register of " + figure, IDLE, -1, 4, 1, 4, (x, register) -> x.addNote(figure, register));
        }
        for (int register : new int[] {Integer.MIN_VALUE, -2, -1, 0, 1, 2, Integer.MAX_VALUE}) {
            Due.is("2 a rest with the register " + register, 4, () -> Made.idle().addNote(0, register));
        }
        GongCircle x = tuneOf('l', 8);
        Due.is("2 the least note", 14, () -> x.noteAt(0, 1));
        Due.is("2 the greatest note", 76, () -> x.noteAt(0, 2));
    }

    private static void forms() {
        letters("5 the forms", "fglmo", (x, letter) -> x.addTune(letter, 's'));
        letters("5 the tunings", "ps", (x, letter) -> x.addTune('l', letter));
        letters("10 the tunings", "ps", (x, letter) -> x.learn(letter, 1, 1, 555));
        letters("31 the tunings", "ps", (x, letter) -> x.addSet(letter, 0));
        char[] forms = {'l', 'm', 'g', 'o'};
        for (int i = 0; i < forms.length; i++) {
            char form = forms[i];
            int beats = 8 << i;
            counted("5 a beat less in " + form, form, beats - 1, false);
            counted("5 the beats of " + form, form, beats, true);
            if (beats < 64) {
                counted("5 a beat more in " + form, form, beats + 1, false);
                counted("5 four beats more in " + form, form, beats + 4, false);
            }
        }
        counted("5 free, four beats", 'f', 4, false);
        counted("5 free, 7 beats", 'f', 7, false);
        counted("5 free, the least", 'f', 8, true);
        counted("5 free, 9 beats", 'f', 9, false);
        counted("5 free, 10 beats", 'f', 10, false);
        counted("5 free, 12 beats", 'f', 12, true);
        counted("5 free, 60 beats", 'f', 60, true);
        counted("5 free, 63 beats", 'f', 63, false);
        counted("5 free, the most", 'f', 64, true);
    }

    private static void counted(String what, char form, int notes, boolean isTaken) {
        GongCircle x = new GongCircle();
        for (int i = 0; i < notes; i++) {
            x.addNote(1, 0);
        }
        if (isTaken) {
            Due.is(what, 0, () -> x.addTune(form, 's'));
        } else {
            Due.isUnsupported(what, () -> x.addTune(form, 's'));
        }
    }

    private static void tuneNumbers() {
        numbered("6 the tune", IDLE, 3, 'T', '-', (x, tune) -> x.strokeAt(tune, 1));
        numbered("7 the tune", IDLE, 3, 15, 0, (x, tune) -> x.noteAt(tune, 1));
        numbered("8 the tune", IDLE, 3, 54, 35, (x, tune) -> x.goalAt(tune, 1));
        numbered("9 the tune", IDLE, 3, 2, 3, (x, tune) -> x.phrases(tune));
        numbered("9 the tune of six", Made::full, 6, 2, 3, (x, tune) -> x.phrases(tune));
        numbered("12 the tune", IDLE, 3, 15, 0, (x, tune) -> x.lineAt(tune, 0, 0, 1, 0));
        numbered("17 the tune", IDLE, 3, 5, 5, (x, tune) -> x.begin(tune));
        numbered("23 the tune", BUSY, 3, 4, 4, (x, tune) -> x.cueTune(tune, 9));
        numbered("30 the tune", IDLE, 3, 3, 2, (x, tune) -> x.gongsWithin(tune, 18000));
        numbered("35 the tune", IDLE, 3, true, true, (x, tune) -> x.canGoOn(tune, 0));
        numbered("35 the next tune", IDLE, 3, true, true, (x, tune) -> x.canGoOn(0, tune));
        numbered("44 the tune", IDLE, 3, true, true, (x, tune) -> x.isProper(tune, 0, 0));
        numbered("45 the tune", IDLE, 3, 0, 25, (x, tune) -> x.vary(tune, 0, 2, 1, 0));
        numbered("46 the tune", IDLE, 3, 0, 25, (x, tune) -> x.villageNote(tune, 0, 2));
        numbered("47 the tune", IDLE, 3, true, false, (x, tune) -> x.areWrittenAlike(tune, 0));
        numbered("47 the other tune", IDLE, 3, true, false, (x, tune) -> x.areWrittenAlike(0, tune));
    }

    private static void beats() {
        char[] forms = {'l', 'm', 'g', 'o', 'f', 'f', 'f'};
        int[] counts = {8, 16, 32, 64, 8, 12, 64};
        String firsts = "T------";
        for (int i = 0; i < forms.length; i++) {
            char form = forms[i];
            int count = counts[i];
            char first = firsts.charAt(i);
            Supplier<GongCircle> made = () -> tuneOf(form, count);
            String of = " of " + form + " " + count;
            range("6 a beat" + of, made, 1, first, count, 'G', (x, beat) -> x.strokeAt(0, beat));
            range("7 a beat" + of, made, 1, 14, count, 76, (x, beat) -> x.noteAt(0, beat));
            range("8 a beat" + of, made, 1, 76, count, 76, (x, beat) -> x.goalAt(0, beat));
            range("12 a beat" + of, made, 1, 14, count, 76, (x, beat) -> x.lineAt(0, 0, 0, beat, 0));
            range("46 a beat" + of, made, 1, 14, count, 76, (x, beat) -> x.villageNote(0, 3, beat));
            range("45 a beat" + of, made, 1, 14, count - 1, 14, (x, beat) -> vary(x, beat, count));
        }
    }

    // The last beat ends a phrase, which is another refusal; so the one behind it is asked.
    private static int vary(GongCircle x, int beat, int count) {
        return x.vary(0, 0, beat == count ? count + 1 : beat, 1, 0);
    }

    private static void steps() {
        StringBuilder wrong = new StringBuilder();
        for (int steps = -1200; steps <= 12000; steps++) {
            String digits = Integer.toString(steps);
            boolean isDue = digits.length() == 3 && steps > 0 && digits.indexOf('0') < 0;
            if (isTaken(steps) != isDue) {
                wrong.append(steps).append(' ');
            }
        }
        Due.is("10 three digits of 1 to 9", "", () -> wrong.toString());
        range("10 steps alike", GongCircle::new, 111, 1, 999, 1, (x, steps) -> x.learn('s', 1, 1, steps));
        for (int steps : new int[] {110, 101, 11, 1000, 990, 909, 99, 1110, 65536 + 111}) {
            Due.isIllegal("10 steps " + steps, () -> new GongCircle().learn('p', 7, 7, steps));
        }
        GongCircle x = new GongCircle();
        Due.tune(x, 'l', 'p', 8, 15);
        x.learn('p', 1, 1, 195);
        Due.is("10 the step -4", 44, () -> x.lineAt(0, 4, 0, 4, 0));
        Due.is("10 the step 4", 55, () -> x.lineAt(0, 4, 0, 4, 1));
        Due.is("10 the step 0", 15, () -> x.lineAt(0, 4, 0, 4, 2));
        Due.is("12 the last step is 0", 15, () -> x.lineAt(0, 4, 0, 4, 3));
    }

    // Each of the steps, up from the goal 15, which is the place 7 of all 21, and its own goal ahead.
    private static void allSteps() {
        StringBuilder wrong = new StringBuilder();
        for (int steps = 111; steps <= 999; steps++) {
            if (isTaken(steps)) {
                GongCircle x = new GongCircle();
                Due.tune(x, 'l', 'p', 8, 15);
                x.learn('p', 1, 1, steps);
                int[] digits = {steps / 100, steps / 10 % 10, steps % 10, 5};
                for (int stroke = 0; stroke < 4; stroke++) {
                    int place = 7 + digits[stroke] - 5;
                    int due = 10 * (place % 7 + 1) + 4 + place / 7;
                    if (x.lineAt(0, 4, 0, 4, stroke) != due) {
                        wrong.append(steps).append(' ');
                    }
                }
            }
        }
        Due.is("12 the last four strokes by all steps", "", () -> wrong.toString());
    }

    private static boolean isTaken(int steps) {
        try {
            new GongCircle().learn('p', 1, 1, steps);
            return true;
        } catch (IllegalArgumentException e) {
            return false;
        }
    }

    private static void densities() {
        range("11 a layer", GongCircle::new, 0, 1, 4, 4, (x, layer) -> x.density(layer, 0));
        range("11 a layer at the level 3", GongCircle::new, 0, 1, 4, 32, (x, layer) -> x.density(layer, 3));
        Object[] most = {1, 16, 32, 1, 32};
        Object[] least = {1, 2, 4, 1, 4};
        for (int i = 0; i < 5; i++) {
            int layer = i;
            range("11 a level of " + layer, GongCircle::new, 0, least[i], 3, most[i],
                    (x, level) -> x.density(layer, level));
        }
    }

    private static void layersAndLevelsOfLines() {
        range("12 a layer", IDLE, 0, 15, 4, 64, (x, layer) -> x.lineAt(0, layer, 0, 1, 0));
        range("12 a layer at the level 3", IDLE, 0, 15, 4, 64, (x, layer) -> x.lineAt(0, layer, 3, 1, 0));
        int[] due = {15, 15, 15, 0, 64};
        for (int i = 0; i < 5; i++) {
            int layer = i;
            range("12 a level of " + layer, IDLE, 0, due[i], 3, due[i], (x, level) -> x.lineAt(0, layer, level, 1, 0));
        }
    }

    // The strokes of the eighth beat of the tune 0: the notes 24 and 64, the goals 54 and 64.
    private static void strokesOfLines() {
        int[] first = {64, 24, 64, 66, 54};
        int[] last = {64, 64, 15, 66, 64};
        int[] densities = {1, 2, 4, 1, 4};
        for (int i = 0; i < 5; i++) {
            int layer = i;
            for (int j = 0; j < 4; j++) {
                int level = j;
                int density = layer == 0 || layer == 3 ? 1 : densities[layer] << level;
                String what = "12 of the layer " + layer + " at the level " + level + ", the stroke ";
                Due.is(what + "0", first[layer], () -> Made.idle().lineAt(0, layer, level, 8, 0));
                Due.is(what + (density - 1), last[layer], () -> Made.idle().lineAt(0, layer, level, 8, density - 1));
                for (int stroke : new int[] {-1, density, density + 1, Integer.MIN_VALUE, Integer.MAX_VALUE}) {
                    Due.isMissing(what + stroke, () -> Made.idle().lineAt(0, layer, level, 8, stroke));
                }
            }
        }
    }

    // The lowest and the highest place of each tuning: 14 and 66 of the five figures, 14 and 76 of the seven.
    private static void places() {
        for (char tuning : new char[] {'s', 'p'}) {
            int highest = tuning == 's' ? 66 : 76;
            int below = tuning == 's' ? 56 : 66;
            GongCircle x = new GongCircle();
            Due.tune(x, 'l', tuning, 8, highest);
            Due.tune(x, 'l', tuning, 8, below);
            Due.tune(x, 'l', tuning, 8, 14);
            String of = " of " + tuning;
            Due.is("12 an answer to the highest" + of, below, () -> x.lineAt(0, 2, 0, 1, 1));
            Due.is("12 an answer to the one below it" + of, highest, () -> x.lineAt(1, 2, 0, 1, 1));
            Due.is("12 an answer to the lowest" + of, 24, () -> x.lineAt(2, 2, 0, 1, 1));
            Due.is("12 a run leaves the highest" + of, below, () -> x.lineAt(0, 4, 0, 4, 2));
            Due.is("12 a run leaves the one below it" + of, highest, () -> x.lineAt(1, 4, 0, 4, 2));
            Due.is("12 a run leaves the lowest" + of, 24, () -> x.lineAt(2, 4, 0, 4, 2));
            x.learn(tuning, highest / 10, highest / 10, 996);
            x.learn(tuning, 1, 1, 114);
            Due.is("12 steps above the highest" + of, highest, () -> x.lineAt(0, 4, 0, 4, 0));
            Due.is("12 a step above the highest" + of, highest, () -> x.lineAt(0, 4, 0, 4, 2));
            Due.is("12 steps below the lowest" + of, 14, () -> x.lineAt(2, 4, 0, 4, 0));
            Due.is("12 a step below the lowest" + of, 14, () -> x.lineAt(2, 4, 0, 4, 2));
            Due.is("12 octaves of the highest" + of, highest - 2, () -> x.lineAt(0, 3, 0, 4, 0));
            Due.is("12 octaves of the lowest" + of, 16, () -> x.lineAt(2, 3, 0, 4, 0));
        }
    }

    private static void players() {
        range("13 an age", IDLE, 10, 6, 99, 6, (x, age) -> x.addPlayer(age, 5, 5));
        range("13 a hearing", IDLE, 0, 6, 9, 6, (x, hearing) -> x.addPlayer(50, hearing, 5));
        range("13 the layers", IDLE, 0, 6, 31, 6, (x, layers) -> x.addPlayer(50, 5, layers));
        numbered("14 a player", IDLE, 6, false, true, (x, player) -> x.setAbsent(player, true));
        numbered("15 a player", IDLE, 6, 0, -1, (x, player) -> x.seatOf(player));
        numbered("15 a player of eight", Made::full, 8, -1, 3, (x, player) -> x.seatOf(player));
        range("16 a layer", IDLE, 0, 0, 4, 3, (x, layer) -> x.playerAt(layer));
        GongCircle x = new GongCircle();
        for (int layer = 0; layer < 5; layer++) {
            x.addPlayer(50, 0, 1 << layer);
        }
        for (int i = 0; i < 5; i++) {
            int layer = i;
            Due.is("13 the bit of the layer " + layer, layer, () -> x.seatOf(layer));
        }
        x.addPlayer(10, 0, 1);
        x.addPlayer(99, 0, 2);
        Due.is("15 the least age", -1, () -> x.seatOf(5));
        Due.is("15 the greatest age", 1, () -> x.seatOf(6));
    }

    // Heard if both are 10 or more together.
    private static void hearing() {
        for (int i = 0; i < 100; i++) {
            int hearing = i / 10;
            int loudness = i % 10;
            boolean hears = hearing + loudness >= 10;
            String what = "22 the loudness " + loudness + " for the hearing " + hearing;
            GongCircle x = tuneOf('l', 8);
            x.addPlayer(50, hearing, 1);
            x.begin(0);
            Due.is(what, hears ? 1 : 0, () -> x.cueLevel(3, loudness));
            x.play(4);
            Due.is(what + ", behind the next end", hears ? 3 : 0, () -> x.levelOf(0));
            x.play(4);
            Due.is(what + ", behind the one after that", 3, () -> x.levelOf(0));
            Due.is("24" + what.substring(2), hears ? 1 : 0, () -> x.cueEnd(loudness));
            Due.is("24 when the end comes: " + what, hears ? 8 : 16, () -> x.play(20));
        }
    }

    private static void playing() {
        range("18 beats", BUSY, 1, 1, 256, 256, (x, beats) -> x.play(beats));
        Supplier<GongCircle> withTheLast = () -> {
            GongCircle x = Made.idle();
            x.setAbsent(5, false);
            x.begin(0);
            return x;
        };
        numbered("21 a player", withTheLast, 6, 0, 0, (x, player) -> x.levelOf(player));
        range("22 a level", BUSY, 0, 4, 3, 4, (x, level) -> x.cueLevel(level, 9));
        range("22 a loudness", BUSY, 0, 0, 9, 4, (x, loudness) -> x.cueLevel(1, loudness));
        range("23 a loudness", BUSY, 0, 0, 9, 4, (x, loudness) -> x.cueTune(2, loudness));
        range("24 a loudness", BUSY, 0, 0, 9, 4, (x, loudness) -> x.cueEnd(loudness));
    }

    // At least half of those who play: of each number of players, each number of those who hear it.
    private static void half() {
        for (int count = 0; count <= 5; count++) {
            for (int hearing = 0; hearing <= count; hearing++) {
                GongCircle x = new GongCircle();
                Due.tune(x, 'l', 's', 8, 15);
                Due.tune(x, 'm', 's', 16, 15);
                for (int i = 0; i < count; i++) {
                    x.addPlayer(50, i < hearing ? 5 : 4, 31);
                }
                x.begin(0);
                int want = hearing;
                boolean isNext = count == 0 || hearing >= count - hearing;
                String what = hearing + " of " + count + " hear it";
                Due.is("23 " + what, want, () -> x.cueTune(1, 5));
                x.play(8);
                Due.is("23 behind the next gong: " + what, isNext ? 1 : 0, () -> x.tune());
                x.play(8);
                Due.is("23 behind the gong after that: " + what, 1, () -> x.tune());
                x.play(isNext ? 8 : 16);
                Due.is("24 " + what, want, () -> x.cueEnd(5));
                Due.is("24 when the end comes: " + what, isNext ? 16 : 32, () -> x.play(100));
            }
        }
    }

    private static void time() {
        range("25 a tempo", IDLE, 100, 750, 5000, 750, (x, tempo) -> x.setTempo(tempo));
        range("26 a bend", IDLE, 50, 110, 200, 110, (x, percent) -> x.bend(percent));
        range("30 a time", IDLE, 0, 0, 9999999, 1666, (x, time) -> x.gongsWithin(0, time));
        Due.is("30 one less than a gong", 0, () -> Made.idle().gongsWithin(0, 5999));
        Due.is("30 just a gong", 1, () -> Made.idle().gongsWithin(0, 6000));
        Due.is("30 one less than two", 1, () -> Made.idle().gongsWithin(0, 11999));
        Due.is("30 just two", 2, () -> Made.idle().gongsWithin(0, 12000));
        GongCircle x = tuneOf('o', 64);
        x.setTempo(5000);
        Due.is("30 the longest, one less", 0, () -> x.gongsWithin(0, 319999));
        Due.is("30 the longest", 1, () -> x.gongsWithin(0, 320000));
        Due.is("30 the longest, in all the time", 31, () -> x.gongsWithin(0, 9999999));
        GongCircle y = tuneOf('l', 8);
        y.setTempo(100);
        Due.is("30 the shortest", 12499, () -> y.gongsWithin(0, 9999999));
        Due.is("27 the shortest beat", 50L, () -> elapsed(100, 50, 0));
        Due.is("27 the shortest beat, cut", 50L, () -> elapsed(101, 50, 0));
        Due.is("27 the longest beat", 80000L, () -> elapsed(5000, 200, 3));
        Due.is("27 the level 1", 2002L, () -> elapsed(1001, 100, 1));
        Due.is("27 cut behind the level and the bend", 2022L, () -> elapsed(1001, 101, 1));
    }

    private static long elapsed(int tempo, int percent, int level) {
        GongCircle x = tuneOf('l', 8);
        x.addPlayer(50, 9, 31);
        x.begin(0);
        x.cueLevel(level, 9);
        x.play(4);
        long before = x.elapsed();
        x.setTempo(tempo);
        x.bend(percent);
        x.play(1);
        return x.elapsed() - before;
    }

    private static void sets() {
        range("31 a base", IDLE, 0, 2, 9999, 2, (x, base) -> x.addSet('s', base));
        range("31 the pitch of a base", IDLE, 0, 0, 9999, 9999, (x, base) -> x.pitch(x.addSet('p', base), 1, 0));
        numbered("32 a set", IDLE, 2, 240, 171, (x, set) -> x.setGap(set, 1, 100));
        range("32 the cents", IDLE, 30, 240, 500, 240, (x, cents) -> x.setGap(0, 1, cents));
        range("32 the pitch above them", IDLE, 30, 330, 500, 800, (x, cents) -> {
            x.setGap(0, 1, cents);
            return x.pitch(0, 2, 0);
        });
        numbered("33 a set", IDLE, 2, 300, 300, (x, set) -> x.pitch(set, 1, 0));
        range("33 a register", IDLE, -1, -910, 1, 1510, (x, register) -> x.pitch(0, 1, register));
        numbered("34 a set", IDLE, 2, 55, 1, (x, set) -> x.shared(set, 0));
        numbered("34 the other set", IDLE, 2, 55, 1, (x, set) -> x.shared(0, set));
        GongCircle x = new GongCircle();
        x.addSet('s', 1000);
        x.addSet('s', 1001);
        Due.is("34 a cent apart", 0, () -> x.shared(0, 1));
        x.setGap(0, 1, 241);
        Due.is("34 not apart above that", 2 + 4 + 16 + 32, () -> x.shared(0, 1));
    }

    private static void bridges() {
        Due.is("36 the first one", 0, () -> Made.idle().suiteAt(0));
        Due.is("36 the last one", 2, () -> Made.idle().suiteAt(1));
        for (int index : new int[] {-1, 2, Integer.MIN_VALUE, Integer.MAX_VALUE}) {
            Due.isMissing("36 the index " + index, () -> Made.idle().suiteAt(index));
        }
    }

    private static void pairs() {
        range("37 a low key", IDLE, 1000, 3, 99999, 3, (x, low) -> x.addPair(low, 99999));
        range("37 a high key", IDLE, 1000, 3, 99999, 3, (x, high) -> x.addPair(1000, high));
        range("37 a high key, not less", IDLE, 54321, 3, 99999, 3, (x, high) -> x.addPair(54321, high));
        range("37 a low key, not more", IDLE, 1000, 3, 54321, 3, (x, low) -> x.addPair(low, 54321));
        numbered("38 a pair", IDLE, 3, 36, 98999, (x, pair) -> x.beating(pair));
        numbered("38 a pair of ten", Made::full, 10, 0, 18, (x, pair) -> x.beating(pair));
        numbered("39 a pair", IDLE, 3, 1532, 99998, (x, pair) -> x.file(pair, true, 1));
        numbered("40 a pair", IDLE, 3, 1533, 99999, (x, pair) -> x.replace(pair, true, 50000));
        range("39 by", IDLE, 1, 99998, 99, 99900, (x, by) -> x.file(2, true, by));
        range("39 by, the low key", IDLE, 1, 1997, 99, 1899, (x, by) -> x.file(1, false, by));
        range("40 the low key", IDLE, 1000, 1000, 99999, 1000, (x, key) -> x.replace(2, false, key));
        range("40 the high key", IDLE, 1000, 99999, 99999, 99999, (x, key) -> x.replace(2, true, key));
    }

    private static GongCircle pair(int low, int high) {
        GongCircle x = new GongCircle();
        x.addPair(low, high);
        return x;
    }

    private static void keys() {
        Due.is("39 the low key to 1000", 1000, () -> pair(1099, 1200).file(0, false, 99));
        Due.isUnsupported("39 the low key to 999", () -> pair(1098, 1200).file(0, false, 99));
        Due.is("39 the high key to 1000", 1000, () -> pair(1000, 1099).file(0, true, 99));
        Due.isUnsupported("39 the high key to 999", () -> pair(1000, 1098).file(0, true, 99));
        Due.is("39 the high key to the low one", 1500, () -> pair(1500, 1599).file(0, true, 99));
        Due.isUnsupported("39 the high key below the low one", () -> pair(1500, 1598).file(0, true, 99));
        Due.isUnsupported("39 a high key that is as the low one", () -> pair(1500, 1500).file(0, true, 1));
        Due.is("39 a low key that is as the high one", 1499, () -> pair(1500, 1500).file(0, false, 1));
        Due.is("40 the low key to the high one", 1500, () -> pair(1500, 1600).replace(0, false, 1600));
        Due.isUnsupported("40 the low key above the high one", () -> pair(1500, 1600).replace(0, false, 1601));
        Due.is("40 the high key to the low one", 1600, () -> pair(1500, 1600).replace(0, true, 1500));
        Due.isUnsupported("40 the high key below the low one", () -> pair(1500, 1600).replace(0, true, 1499));
    }

    private static void days() {
        range("41 days", IDLE, 1, 7, 60, 66, (x, days) -> x.drift(days));
        for (int days = 1; days <= 60; days++) {
            int count = days;
            GongCircle x = Made.empty();
            for (int i = 0; i < 10; i++) {
                x.addPair(2000, 2000);
            }
            x.drift(count);
            for (int i = 0; i < 10; i++) {
                int pair = i;
                Due.is("41 the pair " + pair + " after " + count, count / (pair + 2), () -> x.beating(pair));
            }
        }
        Due.is("41 a key stays at 1000", 1000, () -> drifted(1000, 60));
        Due.is("41 a key comes to 1000", 1000, () -> drifted(1001, 2));
        Due.is("41 a key comes to 1000 and stays there", 1000, () -> drifted(1001, 60));
        Due.is("41 a key stays above 1000", 1001, () -> drifted(1031, 60));
    }

    private static int drifted(int low, int days) {
        GongCircle x = pair(low, 5000);
        x.drift(days);
        return x.replace(0, false, 5000);
    }

    private static void even() {
        Supplier<GongCircle> five = () -> pair(1000, 6000);
        range("42 a count", five, 0, false, 9999, false, (x, count) -> x.areEven(count, 0));
        range("42 within", five, 0, true, 999, true, (x, within) -> x.areEven(5000, within));
        Due.is("42 the least count", true, () -> pair(1000, 1000).areEven(0, 0));
        Due.is("42 the greatest count", true, () -> pair(1000, 10999).areEven(9999, 0));
        Due.is("42 beyond the greatest count", true, () -> pair(1000, 11998).areEven(9999, 999));
        Due.is("42 far beyond the greatest count", false, () -> pair(1000, 11999).areEven(9999, 999));
        Due.is("42 just within, above", true, () -> five.get().areEven(4001, 999));
        Due.is("42 just not within, above", false, () -> five.get().areEven(4000, 999));
        Due.is("42 just within, below", true, () -> five.get().areEven(5999, 999));
        Due.is("42 just not within, below", false, () -> five.get().areEven(6000, 999));
        Due.is("42 one apart within none", false, () -> five.get().areEven(5001, 0));
        Due.is("42 one apart within one", true, () -> five.get().areEven(5001, 1));
    }

    private static void modes() {
        range("43 a figure", IDLE, 1, 2, 7, 2, (x, figure) -> x.addMode(figure, 0, 0));
        range("43 from", IDLE, 0, 2, 23, 2, (x, from) -> x.addMode(1, from, 0));
        range("43 to", IDLE, 0, 2, 23, 2, (x, to) -> x.addMode(1, 0, to));
        range("44 an hour", IDLE, 0, true, 23, true, (x, hour) -> x.isProper(0, 0, hour));
        numbered("44 a mode", IDLE, 2, true, false, (x, mode) -> x.isProper(0, mode, 4));
    }

    private static void villages() {
        range("45 a village", IDLE, 0, 0, 3, 0, (x, village) -> x.vary(0, village, 2, 1, 0));
        range("45 a register", IDLE, -1, 0, 1, 0, (x, register) -> x.vary(0, 0, 2, 1, register));
        range("45 a register of a rest", IDLE, -1, 0, 1, 0, (x, register) -> x.vary(0, 0, 2, 0, register));
        range("46 a village", IDLE, 0, 36, 3, 36, (x, village) -> x.villageNote(0, village, 3));
        endsOfPhrases('l', 8, 4);
        endsOfPhrases('m', 16, 8);
        endsOfPhrases('g', 32, 8);
        endsOfPhrases('o', 64, 16);
        endsOfPhrases('f', 8, 4);
        endsOfPhrases('f', 60, 4);
    }

    private static void endsOfPhrases(char form, int beats, int each) {
        GongCircle x = tuneOf(form, beats);
        Due.is("9 how many phrases of " + form + " " + beats, beats / each, () -> x.phrases(0));
        for (int i = 1; i <= beats; i++) {
            int beat = i;
            String what = "45 in " + form + " " + beats + " on " + beat;
            if (beat % each == 0) {
                Due.isUnsupported(what, () -> x.vary(0, 1, beat, 2, 0));
            } else {
                Due.is(what, beat % 2 == 1 ? 14 : 76, () -> x.vary(0, 1, beat, 2, 0));
            }
        }
    }

    private static void figuresOfTunings() {
        for (int i = 1; i <= 7; i++) {
            int figure = i;
            GongCircle x = new GongCircle();
            Due.note(x, 15, 15, 15, 10 * figure + 5, 15, 15, 15, 15);
            if (figure != 4 && figure != 7) {
                Due.is("5 the figure " + figure + " of s", 0, () -> x.addTune('l', 's'));
            } else {
                Due.isUnsupported("5 the figure " + figure + " of s", () -> x.addTune('l', 's'));
                Due.is("5 the figure " + figure + " of p", 0, () -> x.addTune('l', 'p'));
            }
        }
        figures("10 from, of s", IDLE, "12356", (x, figure) -> x.learn('s', figure, 1, 555));
        figures("10 to, of s", IDLE, "12356", (x, figure) -> x.learn('s', 1, figure, 555));
        figures("10 from, of p", IDLE, "1234567", (x, figure) -> x.learn('p', figure, 1, 555));
        figures("10 to, of p", IDLE, "1234567", (x, figure) -> x.learn('p', 1, figure, 555));
        figures("32 figures of s", IDLE, "12356", (x, figure) -> x.setGap(0, figure, 100));
        figures("32 figures of p", IDLE, "1234567", (x, figure) -> x.setGap(1, figure, 100));
        figures("33 figures of s", IDLE, "12356", (x, figure) -> x.pitch(0, figure, 0));
        figures("33 figures of p", IDLE, "1234567", (x, figure) -> x.pitch(1, figure, 0));
        figures("45 figures of s", IDLE, "012356", (x, figure) -> x.vary(0, 0, 1, figure, 0));
        figures("45 figures of p", IDLE, "01234567", (x, figure) -> x.vary(1, 0, 1, figure, 0));
    }
}
