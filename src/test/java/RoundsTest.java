import java.math.BigInteger;

/**
 * What goes round: the goal and the goal ahead at the first beats, the next note at the last ones, a tune that begins
 * anew behind a gong, hours round midnight; and sums that wrap around as those of Java do.
 */
public final class RoundsTest {
    private static final char[] FORMS = {'l', 'm', 'g', 'o', 'f', 'f', 'f'};
    private static final int[] BEATS = {8, 16, 32, 64, 8, 28, 64};
    private static final int[] HUNG = {4, 8, 8, 16, 4, 4, 4};

    public static void main(String[] args) {
        goalsGoRound();
        goalsGoBackAnyFar();
        goalsDoNotGoAhead();
        goalAheadGoesRound();
        patternOfTheFirstBeats();
        nextNoteAtTheLastBeats();
        lastPairOfBeats();
        tuneBeginsAnew();
        phrasesOfTheNextRound();
        gongsOfManyRounds();
        cuesOverRounds();
        otherTuneBegins();
        manyBeatsAtOnce();
        hoursRoundMidnight();
        allHours();
        checksumWraps();
        Due.end();
    }

    /** A tune of rests, but for those that are told for their beats. */
    private static GongCircle tuneWith(char form, int beats, int... beatsAndNotes) {
        int[] told = new int[beats];
        for (int i = 0; i < beatsAndNotes.length; i += 2) {
            told[beatsAndNotes[i] - 1] = beatsAndNotes[i + 1];
        }
        GongCircle x = new GongCircle();
        Due.tune(x, form, 's', beats, told);
        return x;
    }

    // Rests up to the fourth beat: the last note ahead of it is the last one of the tune.
    private static void goalsGoRound() {
        for (int i = 0; i < FORMS.length; i++) {
            int beats = BEATS[i];
            GongCircle x = tuneWith(FORMS[i], beats, 5, 26, beats - 1, 16, beats, 34);
            for (int j = 1; j <= 4; j++) {
                int beat = j;
                Due.is("8 going round in " + FORMS[i] + beats + " on " + beat, 34, () -> x.goalAt(0, beat));
            }
            Due.is("8 not going round on the fifth beat", beats == 8 ? 34 : 26, () -> x.goalAt(0, 5));
            for (int j = 1; j <= 4; j++) {
                int noteBeat = j;
                GongCircle y = tuneWith(FORMS[i], beats, noteBeat, 56, beats, 34);
                Due.is("8 a note on " + noteBeat + " of the first four", 56, () -> y.goalAt(0, 1));
                Due.is("8 the same for the fourth beat", 56, () -> y.goalAt(0, 4));
            }
        }
    }

    private static void goalsGoBackAnyFar() {
        GongCircle x = tuneWith('o', 64, 1, 24, 64, 65);
        for (int i = 1; i <= 60; i++) {
            int beat = i;
            Due.is("8 the only note ahead, on " + beat, 24, () -> x.goalAt(0, beat));
        }
        for (int i = 61; i <= 64; i++) {
            int beat = i;
            Due.is("8 the note on the last of four, on " + beat, 65, () -> x.goalAt(0, beat));
        }
    }

    // The last note ahead of the fourth beat, not the next one behind it.
    private static void goalsDoNotGoAhead() {
        GongCircle x = tuneWith('m', 16, 4, 15, 5, 25, 9, 35, 12, 55, 13, 65, 16, 66);
        int[] due = {15, 25, 55, 66};
        for (int i = 1; i <= 16; i++) {
            int beat = i;
            Due.is("8 the goal on " + beat, due[(beat - 1) / 4], () -> x.goalAt(0, beat));
        }
    }

    // Each four beats begin their run by leaving and reaching the goal of the four ahead: the first four the last goal.
    private static void goalAheadGoesRound() {
        int[] goals = {15, 25, 35, 55};
        int[] above = {25, 35, 55, 65};
        for (int i = 0; i < FORMS.length; i++) {
            int beats = BEATS[i];
            int fours = beats / 4;
            int[] told = new int[2 * fours];
            for (int four = 0; four < fours; four++) {
                told[2 * four] = 4 * four + 4;
                told[2 * four + 1] = goals[four % 4];
            }
            GongCircle x = tuneWith(FORMS[i], beats, told);
            for (int four = 0; four < fours; four++) {
                int ahead = (four == 0 ? fours - 1 : four - 1) % 4;
                int beat = 4 * four + 1;
                Due.is("12 the run in " + FORMS[i] + beats + " on " + beat, goals[ahead] + " and " + above[ahead],
                        () -> lesserAndGreater(x.lineAt(0, 4, 3, beat, 0), x.lineAt(0, 4, 3, beat, 1)));
                Due.is("12 its goal", goals[(beat - 1) / 4 % 4], () -> x.lineAt(0, 4, 3, beat + 3, 31));
            }
        }
    }

    private static String lesserAndGreater(int one, int other) {
        return Math.min(one, other) + " and " + Math.max(one, other);
    }

    // A pattern for the last goal and the first one is that of the first four beats.
    private static void patternOfTheFirstBeats() {
        GongCircle x = tuneWith('f', 12, 4, 15, 8, 25, 12, 35);
        int before = x.lineAt(0, 4, 0, 8, 2);
        x.learn('s', 3, 1, 789);
        Due.is("12 the first step", 35, () -> x.lineAt(0, 4, 0, 4, 0));
        Due.is("12 the second step", 55, () -> x.lineAt(0, 4, 0, 4, 1));
        Due.is("12 the third step", 65, () -> x.lineAt(0, 4, 0, 4, 2));
        Due.is("12 the last step", 15, () -> x.lineAt(0, 4, 0, 4, 3));
        Due.is("12 not that of the next four", before, () -> x.lineAt(0, 4, 0, 8, 2));
        x.learn('s', 1, 3, 555);
        Due.is("12 not the other way round", 65, () -> x.lineAt(0, 4, 0, 4, 2));
        Due.is("12 nor that of the last four", 25, () -> x.lineAt(0, 4, 0, 12, 2));
    }

    private static void nextNoteAtTheLastBeats() {
        for (int i = 0; i < FORMS.length; i++) {
            int beats = BEATS[i];
            GongCircle x = tuneWith(FORMS[i], beats, 1, 15, beats - 3, 25, beats, 36);
            for (int j = beats - 7; j <= beats; j++) {
                int beat = j;
                int due = beat == 1 ? 15 : beat <= beats - 3 ? 25 : 36;
                String what = "12 the next note in " + FORMS[i] + beats + " from " + beat;
                Due.is(what, due, () -> x.lineAt(0, 2, 0, beat, 0));
                int higher = due == 15 ? 25 : due == 25 ? 35 : 56;
                Due.is(what + ", a place higher", higher, () -> x.lineAt(0, 2, 0, beat, 3));
            }
        }
    }

    private static void lastPairOfBeats() {
        GongCircle x = tuneWith('l', 8, 1, 15, 4, 25, 8, 36);
        int[] due = {15, 15, 25, 25, 36, 36, 36, 36};
        for (int i = 1; i <= 8; i++) {
            int beat = i;
            Due.is("12 walking on " + beat, due[beat - 1], () -> x.lineAt(0, 1, 0, beat, 0));
            Due.is("12 walking on " + beat, due[beat - 1], () -> x.lineAt(0, 1, 0, beat, 1));
        }
    }

    private static void tuneBeginsAnew() {
        for (int i = 0; i < FORMS.length; i++) {
            int beats = BEATS[i];
            String of = " of " + FORMS[i] + beats;
            GongCircle x = tuneWith(FORMS[i], beats, beats, 15);
            x.begin(0);
            Due.is("19 ahead of the first beat" + of, 0, () -> x.beat());
            for (int j = 1; j <= 2 * beats + 1; j++) {
                int played = j;
                x.play(1);
                Due.is("19 the beat after " + played + of, (played - 1) % beats + 1, () -> x.beat());
                Due.is("28 the gongs after " + played + of, played / beats, () -> x.gongs());
            }
            Due.is("20 the same tune" + of, 0, () -> x.tune());
            Due.is("27 all beats" + of, 1000L * (2 * beats + 1), () -> x.elapsed());
        }
    }

    // Behind a gong the phrases are those of the first round again.
    private static void phrasesOfTheNextRound() {
        for (int i = 0; i < FORMS.length; i++) {
            int beats = BEATS[i];
            int hung = HUNG[i];
            GongCircle x = tuneWith(FORMS[i], beats, beats, 15);
            x.addPlayer(50, 9, 31);
            x.begin(0);
            x.play(beats);
            x.cueLevel(3, 9);
            Due.is("22 not at once behind a gong", 0, () -> x.levelOf(0));
            x.play(hung - 1);
            Due.is("22 within the first phrase of the next round", 0, () -> x.levelOf(0));
            x.play(1);
            Due.is("22 behind its end", 3, () -> x.levelOf(0));
            x.play(beats - hung - 1);
            x.cueLevel(1, 9);
            Due.is("22 within the last phrase", 3, () -> x.levelOf(0));
            x.play(1);
            Due.is("22 behind the gong", 1, () -> x.levelOf(0));
        }
    }

    private static void gongsOfManyRounds() {
        for (int i = 0; i < FORMS.length; i++) {
            int beats = BEATS[i];
            GongCircle x = tuneWith(FORMS[i], beats, beats, 15);
            x.begin(0);
            Due.is("18 all of 256", 256, () -> x.play(256));
            Due.is("28 gongs in 256 beats", 256 / beats, () -> x.gongs());
            Due.is("19 the beat after 256", 255 % beats + 1, () -> x.beat());
        }
    }

    // Who does not hear a cue in the last phrase takes it behind the first phrase of the next round.
    private static void cuesOverRounds() {
        for (int i = 0; i < FORMS.length; i++) {
            int beats = BEATS[i];
            int hung = HUNG[i];
            GongCircle x = tuneWith(FORMS[i], beats, beats, 15);
            x.addPlayer(50, 0, 1);
            x.begin(0);
            x.play(beats - 1);
            x.cueLevel(2, 9);
            x.play(1);
            Due.is("22 not behind the gong", 0, () -> x.levelOf(0));
            x.play(hung - 1);
            Due.is("22 not within the first phrase", 0, () -> x.levelOf(0));
            x.play(1);
            Due.is("22 behind the first phrase", 2, () -> x.levelOf(0));
            x.cueEnd(9);
            Due.is("24 behind the gong after the next", 2 * beats - hung, () -> x.play(256));
        }
    }

    private static void otherTuneBegins() {
        GongCircle x = tuneWith('l', 8, 8, 15);
        Due.tune(x, 'f', 's', 12, 15);
        x.begin(0);
        x.cueTune(1, 0);
        x.play(8);
        Due.is("19 the other tune, ahead of its first beat", 0, () -> x.beat());
        Due.is("20 the other tune", 1, () -> x.tune());
        x.play(12);
        Due.is("28 its gong is on its last beat", 2, () -> x.gongs());
        x.cueTune(1, 0);
        x.play(12);
        Due.is("19 the tune itself, ahead of its first beat", 0, () -> x.beat());
        Due.is("20 the tune itself", 1, () -> x.tune());
        x.play(11);
        Due.is("28 not ahead of its last beat", 3, () -> x.gongs());
        x.play(1);
        Due.is("28 on its last beat", 4, () -> x.gongs());
    }

    // One call for many beats is as many calls for one.
    private static void manyBeatsAtOnce() {
        GongCircle x = Made.busy();
        GongCircle y = Made.busy();
        x.play(60);
        for (int i = 0; i < 60; i++) {
            y.play(1);
        }
        String due = Made.shown(y);
        Due.is("18 sixty beats at once", due, () -> Made.shown(x));
    }

    private static void hoursRoundMidnight() {
        hours(22, 2, "ooo-------------------oo");
        hours(23, 0, "o----------------------o");
        hours(23, 23, "-----------------------o");
        hours(0, 0, "o-----------------------");
        hours(0, 23, "oooooooooooooooooooooooo");
        hours(1, 0, "oooooooooooooooooooooooo");
        hours(12, 11, "oooooooooooooooooooooooo");
        hours(12, 10, "ooooooooooo-oooooooooooo");
        hours(0, 1, "oo----------------------");
        hours(22, 23, "----------------------oo");
    }

    private static void hours(int from, int to, String due) {
        GongCircle x = tuneWith('l', 8, 8, 65);
        x.addMode(6, from, to);
        Due.is("44 from " + from + " to " + to, due, () -> askedAllHours(x));
    }

    private static String askedAllHours(GongCircle x) {
        StringBuilder asked = new StringBuilder();
        for (int hour = 0; hour < 24; hour++) {
            asked.append(x.isProper(0, 0, hour) ? 'o' : '-');
        }
        return asked.toString();
    }

    private static void allHours() {
        for (int from = 0; from < 24; from++) {
            for (int to = 0; to < 24; to++) {
                char[] due = "------------------------".toCharArray();
                int hour = from;
                due[hour] = 'o';
                while (hour != to) {
                    hour = hour == 23 ? 0 : hour + 1;
                    due[hour] = 'o';
                }
                hours(from, to, new String(due));
            }
        }
    }

    private static void checksumWraps() {
        GongCircle x = new GongCircle();
        BigInteger sum = BigInteger.valueOf(7);
        for (int i = 0; i < 6; i++) {
            int[] four = {76, 0, 14, 65 + i % 2};
            Due.note(x, four);
            for (int notes = 4; notes < 64; notes *= 2) {
                x.repeatNotes();
            }
            x.addTune('o', 'p');
            sum = added(sum, 64);
            for (int beat = 0; beat < 64; beat++) {
                sum = added(sum, four[beat % 4]);
            }
            for (int goal = 0; goal < 16; goal++) {
                sum = added(sum, four[3]);
            }
            long due = sum.longValue();
            Due.is("48 a sum that wraps around, of " + (i + 1), due, () -> x.checksum());
        }
    }

    private static BigInteger added(BigInteger sum, int part) {
        return sum.multiply(BigInteger.valueOf(31)).add(BigInteger.valueOf(part));
    }
}
