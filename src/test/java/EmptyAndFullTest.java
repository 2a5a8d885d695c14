import java.util.NoSuchElementException;

/**
 * Empty and full, promise by promise: a new object asked, things of which there are none, and each thing of which the
 * document says how many there are at most, at that number and at one more.
 */
public final class EmptyAndFullTest {
    public static void main(String[] args) {
        newObject();
        newObjectTellsOfTunes();
        newObjectTellsOfPlaying();
        newObjectTellsOfSets();
        newObjectTellsOfModes();
        ownObjects();
        nobodyHasASeat();
        nobodyPlays();
        nothingIsPlayedAnyMore();
        nothingToShare();
        onlyRestsAheadOfTheLast();
        restsOfPairs();
        cuesNotTakenAtTheEnd();
        fullNotes();
        fullRepeats();
        fullTunes();
        fullTunesPlayed();
        fullSuites();
        fullPatterns();
        fullPatternsAreUsed();
        fullPlayers();
        fullSeats();
        fullSets();
        fullPairs();
        fullModes();
        fullVillages();
        manyGongs();
        manyCalls();
        Due.end();
    }

    private static void toNew(String what, Object due, Made.Call call) {
        Due.is(what + " of a new object", due, () -> call.of(Made.empty()));
    }

    private static void toNew(String what, Class<? extends RuntimeException> due, Made.Call call) {
        Due.fails(what + " of a new object", due, () -> call.of(Made.empty()));
    }

    private static void newObject() {
        toNew("1 addNote", 1, x -> x.addNote(1, 0));
        toNew("1 repeatNotes", UnsupportedOperationException.class, x -> x.repeatNotes());
        toNew("1 clearNotes", 0, x -> x.clearNotes());
        toNew("1 addTune", UnsupportedOperationException.class, x -> x.addTune('f', 's'));
        toNew("1 learn", 1, x -> x.learn('s', 1, 1, 555));
        toNew("1 density", 1, x -> x.density(0, 0));
        toNew("1 addPlayer", 0, x -> x.addPlayer(10, 0, 0));
        toNew("1 addSet", 0, x -> x.addSet('p', 0));
        toNew("1 addPair", 0, x -> x.addPair(1000, 1000));
        toNew("1 addMode", 0, x -> x.addMode(1, 0, 0));
        toNew("1 checksum", 7L, x -> x.checksum());
        toNew("1 metShare", ArithmeticException.class, x -> x.metShare());
        toNew("1 meanBeating", ArithmeticException.class, x -> x.meanBeating());
        toNew("1 isSound", true, x -> x.isSound());
    }

    private static void newObjectTellsOfTunes() {
        toNew("1 strokeAt", IndexOutOfBoundsException.class, x -> x.strokeAt(0, 1));
        toNew("1 noteAt", IndexOutOfBoundsException.class, x -> x.noteAt(0, 1));
        toNew("1 goalAt", IndexOutOfBoundsException.class, x -> x.goalAt(0, 1));
        toNew("1 phrases", IndexOutOfBoundsException.class, x -> x.phrases(0));
        toNew("1 lineAt", IndexOutOfBoundsException.class, x -> x.lineAt(0, 0, 0, 1, 0));
        toNew("1 setAbsent", IndexOutOfBoundsException.class, x -> x.setAbsent(0, true));
        toNew("1 seatOf", IndexOutOfBoundsException.class, x -> x.seatOf(0));
        for (int i = 0; i < 5; i++) {
            int layer = i;
            toNew("1 playerAt " + layer, NoSuchElementException.class, x -> x.playerAt(layer));
        }
    }

    private static void newObjectTellsOfPlaying() {
        toNew("1 begin", IndexOutOfBoundsException.class, x -> x.begin(0));
        toNew("1 play", IllegalStateException.class, x -> x.play(1));
        toNew("1 beat", IllegalStateException.class, x -> x.beat());
        toNew("1 tune", IllegalStateException.class, x -> x.tune());
        toNew("1 levelOf", IndexOutOfBoundsException.class, x -> x.levelOf(0));
        toNew("1 cueLevel", IllegalStateException.class, x -> x.cueLevel(0, 0));
        toNew("1 cueTune", IndexOutOfBoundsException.class, x -> x.cueTune(0, 0));
        toNew("1 cueEnd", IllegalStateException.class, x -> x.cueEnd(0));
        toNew("1 setTempo", 1000, x -> x.setTempo(1000));
        toNew("1 bend", 100, x -> x.bend(100));
        toNew("1 elapsed", 0L, x -> x.elapsed());
        toNew("1 gongs", 0, x -> x.gongs());
        toNew("1 meetings", 0, x -> x.meetings());
        toNew("1 gongsWithin", IndexOutOfBoundsException.class, x -> x.gongsWithin(0, 0));
    }

    private static void newObjectTellsOfSets() {
        toNew("1 setGap", IndexOutOfBoundsException.class, x -> x.setGap(0, 1, 100));
        toNew("1 pitch", IndexOutOfBoundsException.class, x -> x.pitch(0, 1, 0));
        toNew("1 shared", IndexOutOfBoundsException.class, x -> x.shared(0, 0));
        toNew("1 canGoOn", IndexOutOfBoundsException.class, x -> x.canGoOn(0, 0));
        toNew("1 suiteAt", NoSuchElementException.class, x -> x.suiteAt(0));
        toNew("1 beating", IndexOutOfBoundsException.class, x -> x.beating(0));
        toNew("1 file", IndexOutOfBoundsException.class, x -> x.file(0, true, 1));
        toNew("1 replace", IndexOutOfBoundsException.class, x -> x.replace(0, true, 1000));
        toNew("1 drift", 1, x -> x.drift(1));
        toNew("1 drift", 60, x -> x.drift(60));
        toNew("1 areEven", true, x -> x.areEven(0, 0));
        toNew("1 areEven", true, x -> x.areEven(9999, 0));
    }

    private static void newObjectTellsOfModes() {
        toNew("1 isProper", IndexOutOfBoundsException.class, x -> x.isProper(0, 0, 0));
        toNew("1 vary", IndexOutOfBoundsException.class, x -> x.vary(0, 0, 1, 1, 0));
        toNew("1 villageNote", IndexOutOfBoundsException.class, x -> x.villageNote(0, 0, 1));
        toNew("1 areWrittenAlike", IndexOutOfBoundsException.class, x -> x.areWrittenAlike(0, 0));
    }

    private static void ownObjects() {
        String due = Made.shown(Made.empty());
        GongCircle x = new GongCircle();
        Made.shown(Made.busy());
        Made.shown(Made.full());
        Due.is("1 a new object does not know of others", due, () -> Made.shown(x));
    }

    private static void nobodyHasASeat() {
        GongCircle x = new GongCircle();
        Due.tune(x, 'l', 's', 8, 15);
        Due.is("17 without players", 0, () -> x.begin(0));
        x.cueEnd(0);
        x.play(8);
        x.addPlayer(50, 9, 0);
        Due.is("15 who knows nothing", -1, () -> x.seatOf(0));
        Due.isMissing("16 who knows nothing", () -> x.playerAt(0));
        Due.is("17 with one who knows nothing", 0, () -> x.begin(0));
        Due.isUntimely("21 who knows nothing", () -> x.levelOf(0));
        Due.is("22 nobody is there to hear it", 0, () -> x.cueLevel(3, 9));
        x.cueEnd(0);
        x.play(8);
        x.addPlayer(50, 9, 31);
        x.setAbsent(1, true);
        Due.is("15 who is absent", -1, () -> x.seatOf(1));
        Due.isMissing("16 who is absent", () -> x.playerAt(0));
        Due.is("17 with one who is absent", 0, () -> x.begin(0));
        Due.isUntimely("21 who is absent", () -> x.levelOf(1));
        Due.is("51 sound without seats", true, () -> x.isSound());
    }

    private static void nobodyPlays() {
        GongCircle x = new GongCircle();
        Due.tune(x, 'l', 's', 8, 15);
        Due.tune(x, 'm', 's', 16, 15);
        x.begin(0);
        x.addPlayer(50, 9, 31);
        Due.is("22 nobody hears it", 0, () -> x.cueLevel(3, 9));
        x.play(8);
        Due.is("27 a beat lasts the tempo times 1", 8000L, () -> x.elapsed());
        Due.is("29 the gong is met", 1, () -> x.meetings());
        Due.is("49 the share of one", 1.0f, () -> x.metShare());
        Due.is("23 nobody hears it", 0, () -> x.cueTune(1, 0));
        x.play(8);
        Due.is("23 taken behind the next gong", 1, () -> x.tune());
        Due.isUntimely("21 who came later", () -> x.levelOf(0));
        Due.is("24 nobody hears it", 0, () -> x.cueEnd(0));
        Due.is("24 taken behind the next gong", 16, () -> x.play(256));
        Due.is("29 all gongs are met", 3, () -> x.meetings());
    }

    private static void nothingIsPlayedAnyMore() {
        GongCircle x = new GongCircle();
        Due.tune(x, 'l', 's', 8, 15);
        x.addPlayer(50, 9, 31);
        x.begin(0);
        x.cueEnd(9);
        x.play(8);
        Due.isUntimely("18 nothing is played any more", () -> x.play(1));
        Due.isUntimely("19 nothing is played any more", () -> x.beat());
        Due.isUntimely("20 nothing is played any more", () -> x.tune());
        Due.isUntimely("21 nothing is played any more", () -> x.levelOf(0));
        Due.isUntimely("22 nothing is played any more", () -> x.cueLevel(1, 9));
        Due.isUntimely("23 nothing is played any more", () -> x.cueTune(0, 9));
        Due.isUntimely("24 nothing is played any more", () -> x.cueEnd(9));
        Due.is("27 what lasted stays", 8000L, () -> x.elapsed());
        Due.is("28 what was played stays", 1, () -> x.gongs());
        Due.is("17 it can be begun again", 1, () -> x.begin(0));
        Due.is("19 ahead of the first beat again", 0, () -> x.beat());
    }

    private static void nothingToShare() {
        GongCircle x = new GongCircle();
        Due.tune(x, 'l', 's', 8, 15);
        Due.tune(x, 'l', 'p', 8, 15);
        Due.is("35 without sets", false, () -> x.canGoOn(0, 1));
        Due.is("36 without sets, a suite of one", 0, () -> x.suiteAt(0));
        Due.isMissing("36 without sets, a suite of one", () -> x.suiteAt(1));
        x.addSet('s', 0);
        Due.is("35 without a set of the other tuning", false, () -> x.canGoOn(0, 1));
        x.addSet('s', 0);
        Due.is("35 with two of one tuning", false, () -> x.canGoOn(1, 0));
        x.addSet('p', 1);
        Due.is("35 with sets that share nothing", false, () -> x.canGoOn(0, 1));
        x.addSet('p', 0);
        Due.is("35 with sets that share the figure", true, () -> x.canGoOn(0, 1));
        Due.is("36 a suite of two", 1, () -> x.suiteAt(1));
        Due.is("34 none", 0, () -> x.shared(0, 2));
    }

    private static void onlyRestsAheadOfTheLast() {
        GongCircle x = new GongCircle();
        int[] told = new int[64];
        told[63] = 36;
        Due.tune(x, 'o', 's', 64, told);
        for (int i = 1; i <= 64; i++) {
            int beat = i;
            Due.is("8 the goal on " + beat, 36, () -> x.goalAt(0, beat));
            Due.is("12 walking on " + beat, 36, () -> x.lineAt(0, 1, 0, beat, 0));
            Due.is("12 the answer on " + beat, 36, () -> x.lineAt(0, 2, 0, beat, 0));
            Due.is("12 the octave on " + beat, beat % 2 == 0 ? 34 : 0, () -> x.lineAt(0, 3, 0, beat, 0));
            Due.is("12 the run on " + beat, 36, () -> x.lineAt(0, 4, 0, beat, 3));
        }
        Due.is("51 sound", true, () -> x.isSound());
    }

    // In walking a rest is told by the other one of two beats, both by the goal, 34.
    private static void restsOfPairs() {
        pairOfBeats(15, 26, 15, 26);
        pairOfBeats(0, 26, 26, 26);
        pairOfBeats(15, 0, 15, 15);
        pairOfBeats(0, 0, 34, 34);
    }

    private static void pairOfBeats(int first, int second, int dueEven, int dueOdd) {
        GongCircle x = new GongCircle();
        Due.tune(x, 'l', 's', 8, first, second, 65, 34);
        for (int i = 0; i < 8; i++) {
            int beat = i / 4 + 1;
            int stroke = i % 4;
            Due.is("12 walking by " + first + " and " + second + ", on " + beat + " the stroke " + stroke,
                    stroke % 2 == 0 ? dueEven : dueOdd, () -> x.lineAt(0, 1, 1, beat, stroke));
        }
    }

    // What was not taken when the end came is not taken in what is begun then.
    private static void cuesNotTakenAtTheEnd() {
        GongCircle x = new GongCircle();
        Due.tune(x, 'l', 's', 8, 15);
        Due.tune(x, 'm', 's', 16, 15);
        x.addPlayer(50, 9, 31);
        x.addPlayer(50, 0, 31);
        x.begin(0);
        x.play(4);
        x.cueEnd(9);
        x.cueLevel(2, 9);
        Due.is("24 the end", 4, () -> x.play(10));
        x.begin(1);
        Due.is("21 begun at the level 0, who took it", 0, () -> x.levelOf(0));
        Due.is("21 begun at the level 0, who did not", 0, () -> x.levelOf(1));
        x.play(16);
        Due.is("21 still at the level 0, who took it", 0, () -> x.levelOf(0));
        Due.is("21 still at the level 0, who did not", 0, () -> x.levelOf(1));
        Due.is("24 no other end", 1, () -> x.play(1));
    }

    private static void fullNotes() {
        GongCircle x = new GongCircle();
        for (int i = 1; i <= 64; i++) {
            int count = i;
            Due.is("2 up to 64", count, () -> x.addNote(figureOn(count), 0));
        }
        Due.isUntimely("2 one more than 64", () -> x.addNote(1, 0));
        Due.isUntimely("2 a rest more than 64", () -> x.addNote(0, 0));
        Due.is("5 64 notes are a tune", 0, () -> x.addTune('o', 'p'));
        for (int i = 1; i <= 64; i++) {
            int beat = i;
            Due.is("7 each of 64", 10 * figureOn(beat) + 5, () -> x.noteAt(0, beat));
        }
        Due.is("2 from the first one again", 1, () -> x.addNote(1, 0));
    }

    private static int figureOn(int beat) {
        return beat % 7 + 1;
    }

    private static void fullRepeats() {
        for (int i = 1; i <= 64; i++) {
            int count = i;
            GongCircle x = new GongCircle();
            for (int j = 0; j < count; j++) {
                x.addNote(2, 1);
            }
            if (count <= 32) {
                Due.is("3 twice " + count, 2 * count, () -> x.repeatNotes());
            } else {
                Due.isUntimely("3 twice " + count, () -> x.repeatNotes());
            }
            Due.is("4 then there are", count <= 32 ? 2 * count : count, () -> x.clearNotes());
            Due.is("4 and then none", 0, () -> x.clearNotes());
        }
        GongCircle y = new GongCircle();
        y.addNote(3, 0);
        for (int i = 1; i <= 6; i++) {
            int count = 1 << i;
            Due.is("3 up to 64", count, () -> y.repeatNotes());
        }
        Due.isUntimely("3 one more time", () -> y.repeatNotes());
        Due.isUntimely("2 one note more", () -> y.addNote(3, 0));
    }

    private static void fullTunes() {
        GongCircle x = new GongCircle();
        for (int i = 0; i < 6; i++) {
            int tune = i;
            Due.isOutside("9 ahead of it", () -> x.phrases(tune));
            Due.is("5 up to 6", tune, () -> Due.tune(x, 'f', 's', 8 + 4 * tune, 15, 25, 35, 55 + tune % 2));
            Due.is("9 phrases of " + tune, 2 + tune, () -> x.phrases(tune));
        }
        Due.isUntimely("5 one more than 6", () -> Due.tune(x, 'f', 's', 8, 15));
        Due.is("4 its notes are still there", 8, () -> x.clearNotes());
        for (int i = 0; i < 6; i++) {
            int tune = i;
            Due.is("7 the last note of " + tune, 55 + tune % 2, () -> x.noteAt(tune, 8 + 4 * tune));
            Due.is("9 still the phrases of " + tune, 2 + tune, () -> x.phrases(tune));
        }
        Due.isOutside("9 one more than 6", () -> x.phrases(6));
    }

    private static void fullTunesPlayed() {
        GongCircle x = new GongCircle();
        for (int i = 0; i < 6; i++) {
            Due.tune(x, 'f', 's', 8 + 4 * i, 15);
        }
        Due.is("17 the last one", 0, () -> x.begin(5));
        for (int i = 4; i >= 0; i--) {
            int tune = i;
            x.cueTune(tune, 9);
            int beats = 8 + 4 * (tune + 1);
            x.play(beats - 1);
            Due.is("23 not yet " + tune, tune + 1, () -> x.tune());
            x.play(1);
            Due.is("23 then " + tune, tune, () -> x.tune());
        }
        x.cueTune(5, 9);
        x.play(8);
        Due.is("23 then the last one", 5, () -> x.tune());
    }

    private static void fullSuites() {
        GongCircle x = new GongCircle();
        int[] lasts = {65, 64, 66, 65, 64, 66};
        for (int i = 0; i < 6; i++) {
            Due.tune(x, 'l', i % 2 == 0 ? 's' : 'p', 8, lasts[i]);
            int count = i / 2 + 1;
            for (int j = 0; j < count; j++) {
                int index = j;
                Due.is("36 of those of one tuning", 2 * index, () -> x.suiteAt(index));
            }
            Due.isMissing("36 behind " + count, () -> x.suiteAt(count));
        }
        x.addSet('s', 0);
        x.addSet('p', 960 - 5 * 171);
        for (int i = 0; i < 6; i++) {
            int index = i;
            Due.is("36 of all six", index, () -> x.suiteAt(index));
        }
        Due.isMissing("36 behind all six", () -> x.suiteAt(6));
    }

    private static void fullPatterns() {
        GongCircle x = new GongCircle();
        for (int i = 1; i <= 12; i++) {
            int count = i;
            char tuning = i % 2 == 0 ? 's' : 'p';
            Due.is("10 up to 12", count, () -> x.learn(tuning, 1 + count % 3, 1 + count / 6, 555));
            if (count < 12) {
                Due.is("10 in place of one there", count, () -> x.learn(tuning, 1 + count % 3, 1 + count / 6, 999));
            }
        }
        Due.isUntimely("10 one more than 12", () -> x.learn('s', 6, 6, 555));
        Due.isUntimely("10 one more than 12", () -> x.learn('p', 7, 7, 555));
        Due.isUntimely("10 in place of one of 12", () -> x.learn('p', 2, 1, 111));
    }

    // Of each of twelve patterns a tune with two goals shows that it is kept.
    private static void fullPatternsAreUsed() {
        for (int i = 0; i < 12; i++) {
            int from = i / 4 + 1;
            int to = i % 4 + 4;
            GongCircle x = new GongCircle();
            Due.tune(x, 'l', 'p', 8, 25, 25, 25, 10 * to + 5, 25, 25, 25, 10 * from + 5);
            for (int j = 0; j < 12; j++) {
                x.learn('p', j / 4 + 1, j % 4 + 4, 500 + 10 * (j % 3 + 1) + j % 9 + 1);
            }
            int step = i % 9 + 1 - 5;
            int due = 10 * ((to - 1 + step + 7) % 7 + 1) + (to - 1 + step < 0 ? 4 : to - 1 + step > 6 ? 6 : 5);
            Due.is("10 the pattern " + i + " of twelve", due, () -> x.lineAt(0, 4, 0, 4, 2));
        }
    }

    private static void fullPlayers() {
        GongCircle x = new GongCircle();
        for (int i = 0; i < 8; i++) {
            int player = i;
            Due.isOutside("15 ahead of " + player, () -> x.seatOf(player));
            Due.is("13 up to 8", player, () -> x.addPlayer(10 + player, 0, 31));
            Due.is("15 the oldest", 0, () -> x.seatOf(player));
        }
        Due.isUntimely("13 one more than 8", () -> x.addPlayer(99, 9, 31));
        Due.isOutside("15 one more than 8", () -> x.seatOf(8));
        Due.isOutside("14 one more than 8", () -> x.setAbsent(8, false));
        Due.isOutside("21 one more than 8", () -> x.levelOf(8));
        Due.is("14 the last one", false, () -> x.setAbsent(7, true));
        Due.is("15 the one ahead of it", 0, () -> x.seatOf(6));
        Due.isUntimely("13 one who is absent makes no room", () -> x.addPlayer(99, 9, 31));
    }

    private static void fullSeats() {
        GongCircle x = new GongCircle();
        for (int i = 0; i < 8; i++) {
            x.addPlayer(50, 9, 31);
        }
        for (int i = 0; i < 8; i++) {
            int player = i;
            Due.is("15 the lower number first", player < 5 ? player : -1, () -> x.seatOf(player));
        }
        for (int i = 0; i < 5; i++) {
            int layer = i;
            Due.is("16 five seats", layer, () -> x.playerAt(layer));
        }
        Due.tune(x, 'l', 's', 8, 15);
        Due.is("17 five of eight play", 5, () -> x.begin(0));
        Due.is("22 five of eight hear it", 5, () -> x.cueLevel(1, 1));
        Due.is("21 the fifth one plays", 0, () -> x.levelOf(4));
        Due.isUntimely("21 the sixth one does not", () -> x.levelOf(5));
        Due.is("51 sound", true, () -> x.isSound());
    }

    private static void fullSets() {
        GongCircle x = new GongCircle();
        for (int i = 0; i < 4; i++) {
            int set = i;
            Due.isOutside("33 ahead of " + set, () -> x.pitch(set, 1, 0));
            Due.is("31 up to 4", set, () -> x.addSet(set < 2 ? 's' : 'p', set));
        }
        Due.isUntimely("31 one more than 4", () -> x.addSet('s', 9));
        for (int i = 0; i < 4; i++) {
            int set = i;
            Due.is("33 its base", set, () -> x.pitch(set, 1, 0));
            Due.is("32 its gap", set < 2 ? 240 : 171, () -> x.setGap(set, 6, 30 + set));
        }
        for (int i = 0; i < 4; i++) {
            int set = i;
            Due.is("32 its gap then", 30 + set, () -> x.setGap(set, 6, 100));
        }
        Due.isOutside("32 one more than 4", () -> x.setGap(4, 1, 100));
        Due.isOutside("33 one more than 4", () -> x.pitch(4, 1, 0));
        Due.isOutside("34 one more than 4", () -> x.shared(4, 3));
        Due.isOutside("34 one more than 4", () -> x.shared(3, 4));
        Due.is("34 the last ones", 127, () -> x.shared(3, 3));
    }

    private static void fullPairs() {
        GongCircle x = new GongCircle();
        for (int i = 0; i < 10; i++) {
            int pair = i;
            Due.isOutside("38 ahead of " + pair, () -> x.beating(pair));
            Due.is("37 up to 10", pair, () -> x.addPair(2000, 2000 + pair));
            Due.is("42 all within", true, () -> x.areEven(0, pair));
            Due.is("42 the last one not within", pair == 0, () -> x.areEven(0, Math.max(0, pair - 1)));
            Due.is("50 the mean of " + (pair + 1), pair / 2.0, () -> x.meanBeating());
        }
        Due.isUntimely("37 one more than 10", () -> x.addPair(2000, 2000));
        Due.isOutside("38 one more than 10", () -> x.beating(10));
        Due.isOutside("39 one more than 10", () -> x.file(10, true, 1));
        Due.isOutside("40 one more than 10", () -> x.replace(10, true, 2000));
        for (int i = 0; i < 10; i++) {
            int pair = i;
            Due.is("38 each of 10", pair, () -> x.beating(pair));
            Due.is("39 each of 10", 1999, () -> x.file(pair, false, 1));
        }
        Due.is("50 the mean of all then", 5.5, () -> x.meanBeating());
        x.drift(11);
        Due.is("41 the last one, on day 11", 9 + 1 + 1, () -> x.beating(9));
        Due.is("41 the first one, on day 11", 1 + 5, () -> x.beating(0));
    }

    private static void fullModes() {
        GongCircle x = new GongCircle();
        Due.tune(x, 'l', 'p', 8, 75);
        for (int i = 0; i < 8; i++) {
            int mode = i;
            Due.isOutside("44 ahead of " + mode, () -> x.isProper(0, mode, 0));
            Due.is("43 up to 8", mode, () -> x.addMode(7, mode, mode));
        }
        Due.isUntimely("43 one more than 8", () -> x.addMode(7, 0, 0));
        Due.isOutside("44 one more than 8", () -> x.isProper(0, 8, 0));
        for (int i = 0; i < 64; i++) {
            int mode = i / 8;
            int hour = i % 8;
            Due.is("44 each of 8", mode == hour, () -> x.isProper(0, mode, hour));
        }
    }

    private static void fullVillages() {
        GongCircle x = new GongCircle();
        Due.tune(x, 'g', 'p', 32, 15);
        for (int village = 0; village < 4; village++) {
            for (int beat = 1; beat < 32; beat++) {
                if (beat % 8 != 0) {
                    x.vary(0, village, beat, 1 + (village + beat) % 7, village % 3 - 1);
                }
            }
        }
        for (int i = 0; i < 4; i++) {
            int village = i;
            for (int j = 1; j <= 32; j++) {
                int beat = j;
                int due = beat % 8 == 0 ? 15 : 10 * (1 + (village + beat) % 7) + 4 + village % 3;
                Due.is("46 all notes of " + village, due, () -> x.villageNote(0, village, beat));
            }
        }
        Due.is("45 the tune has its own notes", 15, () -> x.noteAt(0, 1));
    }

    private static void manyGongs() {
        GongCircle x = new GongCircle();
        Due.tune(x, 'f', 's', 8, 15);
        x.begin(0);
        for (int i = 0; i < 100; i++) {
            x.play(256);
        }
        Due.is("28 32 gongs in 256 beats, a hundred times", 3200, () -> x.gongs());
        Due.is("29 all are met", 3200, () -> x.meetings());
        Due.is("27 the sum", 25600000L, () -> x.elapsed());
        Due.is("49 the share", 1.0f, () -> x.metShare());
    }

    // 512 calls of an object are answered.
    private static void manyCalls() {
        GongCircle x = new GongCircle();
        for (int i = 1; i <= 511; i++) {
            x.drift(60);
        }
        Due.is("41 the call 512", 512 * 60, () -> x.drift(60));
    }
}
