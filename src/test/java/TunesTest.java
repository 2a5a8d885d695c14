/** Promises 1 to 9: a new object, notes, tunes, strokes, goals and phrases. */
public final class TunesTest {
    public static void main(String[] args) {
        promise1NewObject();
        promise2AddNote();
        promise3RepeatNotes();
        promise4ClearNotes();
        promise5AddTune();
        promise5Forms();
        promise6StrokeAt();
        promise7NoteAt();
        promise8GoalAt();
        promise9Phrases();
        Due.end();
    }

    private static void promise1NewObject() {
        GongCircle x = new GongCircle();
        Due.is("1 clearNotes of a new object", 0, () -> x.clearNotes());
        Due.isOutside("1 no tune", () -> x.phrases(0));
        Due.isOutside("1 no player", () -> x.seatOf(0));
        Due.isOutside("1 no set", () -> x.shared(0, 0));
        Due.isOutside("1 no pair", () -> x.beating(0));
        Due.isUntimely("1 nothing is played", () -> x.tune());
        Due.is("1 elapsed", 0L, () -> x.elapsed());
        Due.is("1 gongs", 0, () -> x.gongs());
        Due.is("1 meetings", 0, () -> x.meetings());
        Due.is("1 checksum", 7L, () -> x.checksum());
        Due.is("1 isSound", true, () -> x.isSound());
        Due.is("1 tempo", 1000, () -> x.setTempo(100));
        Due.is("1 bend", 100, () -> x.bend(50));
        Due.is("1 day", 1, () -> x.drift(1));
        GongCircle y = new GongCircle();
        Due.is("1 another object is its own", 1000, () -> y.setTempo(200));
    }

    private static void promise2AddNote() {
        GongCircle x = new GongCircle();
        Due.isIllegal("2 figure 8", () -> x.addNote(8, 0));
        Due.isIllegal("2 figure -1", () -> x.addNote(-1, 0));
        Due.isIllegal("2 register 2", () -> x.addNote(7, 2));
        Due.isIllegal("2 register -2", () -> x.addNote(1, -2));
        Due.isIllegal("2 least figure", () -> x.addNote(Integer.MIN_VALUE, 0));
        Due.is("2 the first", 1, () -> x.addNote(7, 1));
        Due.is("2 the second", 2, () -> x.addNote(1, -1));
        Due.is("2 a rest with any register", 3, () -> x.addNote(0, 99));
        Due.is("2 a rest with any register", 4, () -> x.addNote(0, Integer.MIN_VALUE));
        for (int i = 5; i <= 64; i++) {
            int want = i;
            Due.is("2 up to 64", want, () -> x.addNote(3, 0));
        }
        Due.isUntimely("2 there are 64", () -> x.addNote(3, 0));
        Due.isUntimely("2 there are 64", () -> x.addNote(0, 0));
        Due.isIllegal("2 both: out of range first", () -> x.addNote(8, 0));
        Due.is("2 nothing was added", 64, () -> x.clearNotes());
    }

    private static void promise3RepeatNotes() {
        GongCircle x = new GongCircle();
        Due.isUnsupported("3 nothing is noted", () -> x.repeatNotes());
        Due.note(x, 15, 0, 36, 54);
        Due.is("3 4 and 4", 8, () -> x.repeatNotes());
        x.addTune('l', 's');
        int[] want = {15, 0, 36, 54, 15, 0, 36, 54};
        for (int beat = 1; beat <= 8; beat++) {
            int b = beat;
            Due.is("3 note on " + b, want[b - 1], () -> x.noteAt(0, b));
        }
        for (int i = 0; i < 32; i++) {
            x.addNote(1, 0);
        }
        Due.is("3 up to 64", 64, () -> x.repeatNotes());
        Due.isUntimely("3 more than 64", () -> x.repeatNotes());
        x.clearNotes();
        for (int i = 0; i < 33; i++) {
            x.addNote(1, 0);
        }
        Due.isUntimely("3 33 and 33", () -> x.repeatNotes());
        Due.is("3 nothing was added", 33, () -> x.clearNotes());
    }

    private static void promise4ClearNotes() {
        GongCircle x = new GongCircle();
        Due.note(x, 15, 0, 35);
        Due.is("4 three", 3, () -> x.clearNotes());
        Due.is("4 none", 0, () -> x.clearNotes());
        Due.is("4 from the first one again", 1, () -> x.addNote(5, 0));
    }

    private static void promise5AddTune() {
        GongCircle x = new GongCircle();
        Due.isIllegal("5 no such form, ahead of no notes", () -> x.addTune('x', 's'));
        Due.isIllegal("5 no such tuning, ahead of no notes", () -> x.addTune('l', 'x'));
        Due.isIllegal("5 great letters", () -> x.addTune('L', 's'));
        Due.isIllegal("5 great letters", () -> x.addTune('l', 'S'));
        Due.isUnsupported("5 no notes", () -> x.addTune('l', 's'));
        Due.isUnsupported("5 no notes", () -> x.addTune('f', 's'));
        Due.note(x, 15, 25, 35, 55, 65, 15, 25, 0);
        Due.isUnsupported("5 the last one is a rest", () -> x.addTune('l', 's'));
        Due.is("5 the notes are still there", 8, () -> x.clearNotes());
        Due.note(x, 15, 25, 35, 45, 65, 15, 25, 35);
        Due.isUnsupported("5 4 is not of s", () -> x.addTune('l', 's'));
        Due.isIllegal("5 no such tuning first", () -> x.addTune('l', 'q'));
        Due.is("5 4 is of p", 0, () -> x.addTune('l', 'p'));
        Due.is("5 what is noted is cleared", 0, () -> x.clearNotes());
        Due.note(x, 15, 25, 35, 75, 65, 15, 25, 35);
        Due.isUnsupported("5 7 is not of s", () -> x.addTune('l', 's'));
        x.clearNotes();
        Due.note(x, 45, 25, 35, 15, 65, 15, 25, 35);
        Due.isUnsupported("5 the first one is not of s", () -> x.addTune('l', 's'));
        x.clearNotes();
        Due.note(x, 15, 25, 35, 15, 65, 15, 25, 75);
        Due.isUnsupported("5 the last one is not of s", () -> x.addTune('l', 's'));
        x.clearNotes();
        Due.note(x, 0, 0, 0, 0, 0, 0, 0, 15);
        Due.is("5 rests ahead of the last one", 1, () -> x.addTune('l', 's'));
        for (int i = 2; i < 6; i++) {
            int want = i;
            Due.is("5 up to 6", want, () -> Due.tune(x, 'l', 's', 8, 65));
        }
        Due.note(x, 15, 15, 15, 15, 15, 15, 15);
        Due.isIllegal("5 all three: the form first", () -> x.addTune('z', 's'));
        Due.isUnsupported("5 seven notes first", () -> x.addTune('l', 's'));
        Due.note(x, 15);
        Due.isUntimely("5 there are 6", () -> x.addTune('l', 's'));
        Due.is("5 the notes are still there", 8, () -> x.clearNotes());
        Due.isOutside("5 no seventh tune", () -> x.phrases(6));
    }

    private static void promise5Forms() {
        char[] forms = {'l', 'm', 'g', 'o', 'f'};
        for (int beats = 1; beats <= 64; beats++) {
            for (char form : forms) {
                GongCircle x = new GongCircle();
                int count = beats;
                for (int i = 0; i < count; i++) {
                    x.addNote(6, -1);
                }
                boolean fits = form == 'f' ? count >= 8 && count % 4 == 0
                        : count == (form == 'l' ? 8 : form == 'm' ? 16 : form == 'g' ? 32 : 64);
                if (fits) {
                    Due.is("5 " + count + " beats in " + form, 0, () -> x.addTune(form, 's'));
                } else {
                    Due.isUnsupported("5 " + count + " beats in " + form, () -> x.addTune(form, 's'));
                }
            }
        }
    }

    private static void strokes(GongCircle x, int tune, String want) {
        StringBuilder got = new StringBuilder();
        for (int beat = 1; beat <= want.length(); beat++) {
            got.append(x.strokeAt(tune, beat));
        }
        Due.is("6 strokes of tune " + tune, want, () -> got.toString());
        Due.isIllegal("6 a beat more", () -> x.strokeAt(tune, want.length() + 1));
    }

    private static void promise6StrokeAt() {
        GongCircle x = new GongCircle();
        Due.tune(x, 'l', 's', 8, 15);
        Due.tune(x, 'm', 's', 16, 15);
        Due.tune(x, 'g', 'p', 32, 15);
        Due.tune(x, 'o', 's', 64, 15);
        Due.tune(x, 'f', 's', 12, 15);
        strokes(x, 0, "T-TNTPTG");
        strokes(x, 1, "-T---T-N-T-P-T-G");
        strokes(x, 2, "-T---T-N-T-P-T-N-T-P-T-N-T-P-T-G");
        strokes(x, 3, "---T-------T---N---T-------T---N---T-------T---N---T-------T---G");
        strokes(x, 4, "-T-N-T-N-T-G");
        Due.isIllegal("6 beat 0", () -> x.strokeAt(0, 0));
        Due.isIllegal("6 beat -4", () -> x.strokeAt(0, -4));
        Due.isOutside("6 tune 5", () -> x.strokeAt(5, 1));
        Due.isOutside("6 tune -1, ahead of the beat", () -> x.strokeAt(-1, 0));
    }

    private static void promise7NoteAt() {
        GongCircle x = new GongCircle();
        Due.note(x, 14, 0, 76, 45, 0, 0, 24, 66);
        x.addTune('l', 'p');
        int[] want = {14, 0, 76, 45, 0, 0, 24, 66};
        for (int beat = 1; beat <= 8; beat++) {
            int b = beat;
            Due.is("7 note on " + b, want[b - 1], () -> x.noteAt(0, b));
        }
        Due.isIllegal("7 beat 0", () -> x.noteAt(0, 0));
        Due.isIllegal("7 beat 9", () -> x.noteAt(0, 9));
        Due.isOutside("7 tune 1, ahead of the beat", () -> x.noteAt(1, 9));
        Due.isOutside("7 tune -1", () -> x.noteAt(-1, 1));
        Due.isOutside("7 tune 6", () -> x.noteAt(6, 1));
        GongCircle y = new GongCircle();
        for (int i = 0; i < 7; i++) {
            y.addNote(0, 7);
        }
        y.addNote(2, 0);
        y.addTune('l', 's');
        Due.is("7 a rest is 0, whatever its register", 0, () -> y.noteAt(0, 1));
    }

    private static void promise8GoalAt() {
        GongCircle x = new GongCircle();
        Due.note(x, 0, 0, 0, 0, 15, 0, 0, 0, 25, 0, 36, 54);
        x.addTune('f', 's');
        int[] want = {54, 15, 54};
        for (int beat = 1; beat <= 12; beat++) {
            int b = beat;
            Due.is("8 goal of " + b, want[(b - 1) / 4], () -> x.goalAt(0, b));
        }
        Due.tune(x, 'l', 's', 8, 15, 26, 0, 0, 0, 0, 0, 64);
        Due.is("8 a rest: the last note ahead", 26, () -> x.goalAt(1, 4));
        Due.is("8 the last note", 64, () -> x.goalAt(1, 5));
        Due.isIllegal("8 beat 0", () -> x.goalAt(0, 0));
        Due.isIllegal("8 beat 13", () -> x.goalAt(0, 13));
        Due.isOutside("8 tune 2, ahead of the beat", () -> x.goalAt(2, 0));
        Due.isOutside("8 tune -1", () -> x.goalAt(-1, 1));
    }

    private static void promise9Phrases() {
        GongCircle x = new GongCircle();
        Due.tune(x, 'l', 's', 8, 15);
        Due.tune(x, 'm', 's', 16, 15);
        Due.tune(x, 'g', 's', 32, 15);
        Due.tune(x, 'o', 's', 64, 15);
        Due.tune(x, 'f', 's', 8, 15);
        Due.tune(x, 'f', 's', 64, 15);
        int[] want = {2, 2, 4, 4, 2, 16};
        for (int tune = 0; tune < 6; tune++) {
            int t = tune;
            Due.is("9 phrases of tune " + t, want[t], () -> x.phrases(t));
        }
        Due.isOutside("9 tune 6", () -> x.phrases(6));
        Due.isOutside("9 tune -1", () -> x.phrases(-1));
    }
}
