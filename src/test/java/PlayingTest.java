/** Promises 17 to 30: what is played, cues, tempo, and what is counted of it. */
public final class PlayingTest {
    public static void main(String[] args) {
        promise17Begin();
        promise17BeginsAnew();
        promise18Play();
        promise19Beat();
        promise20Tune();
        promise21LevelOf();
        promise22CueLevel();
        promise22LaterCues();
        promise22OverTunes();
        promise23CueTune();
        promise23HalfHear();
        promise23InPlaceOfOne();
        promise24CueEnd();
        promise25SetTempo();
        promise26Bend();
        promise27Elapsed();
        promise28Gongs();
        promise29Meetings();
        promise30GongsWithin();
        Due.end();
    }

    /** A little tune 0 and a middle tune 1, and players of these hearings, who have the seats 0, 1, .. */
    private static GongCircle circle(int... hearings) {
        GongCircle x = new GongCircle();
        Due.tune(x, 'l', 's', 8, 15);
        Due.tune(x, 'm', 'p', 16, 25);
        for (int i = 0; i < hearings.length; i++) {
            x.addPlayer(90 - i, hearings[i], 31);
        }
        return x;
    }

    private static void levels(String what, GongCircle x, int... want) {
        for (int i = 0; i < want.length; i++) {
            int player = i;
            Due.is(what + ", level of " + player, want[player], () -> x.levelOf(player));
        }
    }

    private static void promise17Begin() {
        GongCircle x = circle(5, 5, 5, 5, 5, 5);
        x.addPlayer(99, 5, 0);
        x.setAbsent(1, true);
        Due.isOutside("17 tune 2", () -> x.begin(2));
        Due.isOutside("17 tune -1", () -> x.begin(-1));
        Due.isUntimely("17 nothing has begun", () -> x.beat());
        Due.is("17 five seats", 5, () -> x.begin(0));
        Due.is("17 the beat", 0, () -> x.beat());
        Due.is("17 the tune", 0, () -> x.tune());
        levels("17 at the level 0", x, 0);
        Due.isUntimely("17 the absent one does not play", () -> x.levelOf(1));
        Due.isUntimely("17 the one who knows nothing does not play", () -> x.levelOf(6));
        Due.isUntimely("17 something is played", () -> x.begin(1));
        Due.isOutside("17 both: no such tune first", () -> x.begin(2));
        Due.is("17 the tune is as it was", 0, () -> x.tune());
        x.setAbsent(0, true);
        x.setAbsent(1, false);
        levels("17 whoever is absent later", x, 0);
        Due.isUntimely("17 whoever comes later", () -> x.levelOf(1));
        x.addPlayer(95, 9, 31);
        Due.isUntimely("17 who is added later", () -> x.levelOf(7));
        GongCircle y = circle();
        Due.is("17 nobody", 0, () -> y.begin(1));
        Due.is("17 the tune", 1, () -> y.tune());
    }

    private static void promise17BeginsAnew() {
        GongCircle x = circle(9, 0);
        x.begin(0);
        x.play(4);
        x.cueLevel(3, 9);
        x.cueEnd(9);
        x.play(4);
        Due.isUntimely("17 the end", () -> x.beat());
        x.setAbsent(1, true);
        Due.is("17 who has seats then", 1, () -> x.begin(1));
        levels("17 at the level 0 again", x, 0);
        Due.isUntimely("17 who is absent now", () -> x.levelOf(1));
        Due.is("17 the beat is 0 again", 0, () -> x.beat());
        x.play(16);
        levels("17 no cue from before", x, 0);
        Due.is("17 no end from before", 16, () -> x.play(16));
    }

    private static void promise18Play() {
        GongCircle x = circle(5);
        Due.isUntimely("18 nothing is played", () -> x.play(1));
        Due.isIllegal("18 both: out of range first", () -> x.play(0));
        x.begin(0);
        Due.isIllegal("18 no beats", () -> x.play(0));
        Due.isIllegal("18 257 beats", () -> x.play(257));
        Due.isIllegal("18 -1 beats", () -> x.play(-1));
        Due.is("18 nothing was played", 0, () -> x.beat());
        Due.is("18 1 beat", 1, () -> x.play(1));
        Due.is("18 256 beats", 256, () -> x.play(256));
        Due.is("18 the beat", 1, () -> x.beat());
        x.cueEnd(9);
        Due.is("18 as long as something is played", 7, () -> x.play(256));
        Due.isUntimely("18 nothing is played any more", () -> x.play(1));
    }

    private static void promise19Beat() {
        GongCircle x = circle(5);
        Due.isUntimely("19 nothing is played", () -> x.beat());
        x.begin(0);
        Due.is("19 ahead of the first one", 0, () -> x.beat());
        for (int i = 1; i <= 20; i++) {
            int want = (i - 1) % 8 + 1;
            x.play(1);
            Due.is("19 the beat that was played last", want, () -> x.beat());
        }
        x.cueTune(1, 9);
        x.play(4);
        Due.is("19 ahead of the first one of the other tune", 0, () -> x.beat());
        x.play(15);
        Due.is("19 the beat of the other tune", 15, () -> x.beat());
        x.cueEnd(9);
        x.play(1);
        Due.isUntimely("19 nothing is played any more", () -> x.beat());
    }

    private static void promise20Tune() {
        GongCircle x = circle(5);
        Due.isUntimely("20 nothing is played", () -> x.tune());
        x.begin(1);
        Due.is("20 the one that was begun", 1, () -> x.tune());
        x.cueTune(0, 9);
        x.play(15);
        Due.is("20 not yet the other one", 1, () -> x.tune());
        x.play(1);
        Due.is("20 the other one", 0, () -> x.tune());
        x.cueEnd(9);
        x.play(8);
        Due.isUntimely("20 nothing is played any more", () -> x.tune());
    }

    private static void promise21LevelOf() {
        GongCircle x = circle(5, 5);
        x.addPlayer(10, 5, 0);
        Due.isUntimely("21 nothing is played", () -> x.levelOf(0));
        Due.isOutside("21 no such player first", () -> x.levelOf(3));
        x.begin(0);
        levels("21 at first", x, 0, 0);
        Due.isUntimely("21 the player does not play", () -> x.levelOf(2));
        Due.isOutside("21 player 3", () -> x.levelOf(3));
        Due.isOutside("21 player -1", () -> x.levelOf(-1));
        x.cueLevel(2, 9);
        x.play(4);
        levels("21 then", x, 2, 2);
        x.cueEnd(9);
        x.play(4);
        Due.isUntimely("21 nothing is played any more", () -> x.levelOf(0));
    }

    private static void promise22CueLevel() {
        GongCircle x = circle(0, 1, 5, 9);
        x.addPlayer(10, 9, 0);
        Due.isUntimely("22 nothing is played", () -> x.cueLevel(1, 5));
        Due.isIllegal("22 both: out of range first", () -> x.cueLevel(4, 5));
        x.begin(0);
        Due.isIllegal("22 level 4", () -> x.cueLevel(4, 5));
        Due.isIllegal("22 level -1", () -> x.cueLevel(-1, 5));
        Due.isIllegal("22 loudness 10", () -> x.cueLevel(1, 10));
        Due.isIllegal("22 loudness -1", () -> x.cueLevel(1, -1));
        Due.is("22 9: not those of 0", 3, () -> x.cueLevel(3, 9));
        Due.is("22 0: nobody", 0, () -> x.cueLevel(3, 0));
        Due.is("22 4: those of 9", 1, () -> x.cueLevel(3, 4));
        Due.is("22 5: those of 5", 2, () -> x.cueLevel(1, 5));
        x.play(3);
        levels("22 within the phrase", x, 0, 0, 0, 0);
        x.play(1);
        levels("22 behind the end of the phrase", x, 0, 0, 1, 1);
        x.play(3);
        levels("22 within the phrase after that", x, 0, 0, 1, 1);
        x.play(1);
        levels("22 behind its end", x, 1, 1, 1, 1);
        x.play(8);
        levels("22 then no more", x, 1, 1, 1, 1);
        x.cueLevel(0, 9);
        x.play(4);
        levels("22 back to 0", x, 1, 0, 0, 0);
        x.play(4);
        levels("22 all back to 0", x, 0, 0, 0, 0);
    }

    private static void promise22LaterCues() {
        GongCircle x = circle(9, 0);
        x.begin(0);
        x.cueLevel(1, 5);
        x.play(2);
        Due.is("22 a later one", 1, () -> x.cueLevel(2, 5));
        x.play(2);
        levels("22 the later one is taken", x, 2, 0);
        x.cueLevel(3, 5);
        x.play(4);
        levels("22 the one not taken yet is gone", x, 3, 0);
        x.play(4);
        levels("22 the later one is taken by all", x, 3, 3);
        // given behind the end of a phrase, a cue waits for the next one
        x.cueLevel(1, 5);
        levels("22 not at once", x, 3, 3);
        x.play(3);
        levels("22 not within the phrase", x, 3, 3);
        x.cueLevel(2, 0);
        x.play(1);
        levels("22 now heard by nobody", x, 3, 3);
        x.play(4);
        levels("22 taken later by those who did not hear it", x, 2, 2);
    }

    private static void promise22OverTunes() {
        GongCircle x = circle(9, 0);
        x.begin(0);
        x.play(4);
        x.cueTune(1, 9);
        x.cueLevel(2, 9);
        x.play(4);
        Due.is("22 the other tune", 1, () -> x.tune());
        levels("22 taken behind the gong", x, 2, 0);
        x.play(7);
        levels("22 within the phrase of the other tune", x, 2, 0);
        x.play(1);
        levels("22 behind its end", x, 2, 2);
    }

    private static void promise23CueTune() {
        GongCircle x = circle(5, 5);
        Due.isUntimely("23 nothing is played", () -> x.cueTune(1, 5));
        Due.isOutside("23 no such tune first", () -> x.cueTune(2, 10));
        Due.isIllegal("23 then the range", () -> x.cueTune(1, 10));
        x.begin(0);
        x.cueLevel(1, 9);
        Due.isOutside("23 tune 2", () -> x.cueTune(2, 5));
        Due.isOutside("23 tune -1", () -> x.cueTune(-1, 5));
        Due.isIllegal("23 loudness 10", () -> x.cueTune(1, 10));
        Due.isIllegal("23 loudness -1", () -> x.cueTune(1, -1));
        x.play(8);
        Due.is("23 nothing was cued", 0, () -> x.tune());
        Due.is("23 all hear it", 2, () -> x.cueTune(1, 5));
        x.play(7);
        Due.is("23 not ahead of the gong", 0, () -> x.tune());
        x.play(1);
        Due.is("23 behind the gong", 1, () -> x.tune());
        levels("23 with their levels", x, 1, 1);
        x.play(32);
        Due.is("23 it stays", 1, () -> x.tune());
        Due.is("23 the tune itself", 2, () -> x.cueTune(1, 9));
        x.play(20);
        Due.is("23 it begins anew", 1, () -> x.tune());
        Due.is("23 it goes on", 4, () -> x.beat());
        GongCircle y = circle();
        y.begin(0);
        Due.is("23 nobody plays", 0, () -> y.cueTune(1, 0));
        y.play(8);
        Due.is("23 taken behind the next gong", 1, () -> y.tune());
    }

    private static void promise23HalfHear() {
        GongCircle x = circle(9, 5, 1, 0);
        x.begin(0);
        Due.is("23 half hear it", 2, () -> x.cueTune(1, 5));
        x.play(8);
        Due.is("23 half are enough", 1, () -> x.tune());
        Due.is("23 less than half hear it", 1, () -> x.cueTune(0, 4));
        x.play(16);
        Due.is("23 not behind the next gong", 1, () -> x.tune());
        x.play(15);
        Due.is("23 not ahead of the gong after that", 1, () -> x.tune());
        x.play(1);
        Due.is("23 behind the gong after that", 0, () -> x.tune());
        GongCircle y = circle(9, 0, 0);
        y.begin(0);
        Due.is("23 one of three", 1, () -> y.cueTune(1, 5));
        y.play(8);
        Due.is("23 is less than half", 0, () -> y.tune());
        y.play(8);
        Due.is("23 so the gong after that", 1, () -> y.tune());
    }

    private static void promise23InPlaceOfOne() {
        GongCircle x = circle(9);
        Due.tune(x, 'f', 's', 12, 35);
        x.begin(0);
        x.cueTune(1, 9);
        x.cueTune(2, 9);
        x.play(8);
        Due.is("23 in place of one for a tune", 2, () -> x.tune());
        x.cueEnd(9);
        x.cueTune(0, 9);
        Due.is("23 in place of one for the end", 20, () -> x.play(20));
        Due.is("23 in place of one for the end", 0, () -> x.tune());
        x.cueTune(1, 0);
        x.play(8);
        Due.is("23 waits for one gong more", 0, () -> x.tune());
        x.cueTune(2, 0);
        x.play(8);
        Due.is("23 in place of one that waits", 0, () -> x.tune());
        x.play(8);
        Due.is("23 and waits anew", 2, () -> x.tune());
    }

    private static void promise24CueEnd() {
        GongCircle x = circle(9, 1, 0);
        Due.isUntimely("24 nothing is played", () -> x.cueEnd(9));
        Due.isIllegal("24 both: out of range first", () -> x.cueEnd(10));
        x.begin(1);
        Due.isIllegal("24 loudness 10", () -> x.cueEnd(10));
        Due.isIllegal("24 loudness -1", () -> x.cueEnd(-1));
        Due.is("24 nothing was cued", 17, () -> x.play(17));
        Due.is("24 two hear it", 2, () -> x.cueEnd(9));
        Due.is("24 behind the next gong", 15, () -> x.play(100));
        Due.isUntimely("24 nothing is played any more", () -> x.cueEnd(9));
        Due.isUntimely("24 nothing is played any more", () -> x.levelOf(0));
        x.begin(1);
        Due.is("24 one hears it", 1, () -> x.cueEnd(8));
        Due.is("24 behind the gong after that", 32, () -> x.play(100));
        x.begin(0);
        x.cueTune(1, 9);
        x.cueEnd(9);
        Due.is("24 in place of one for a tune", 8, () -> x.play(100));
        Due.is("24 what was played is still counted", 5, () -> x.gongs());
        GongCircle y = circle();
        y.begin(0);
        Due.is("24 nobody plays", 0, () -> y.cueEnd(0));
        Due.is("24 behind the next gong", 8, () -> y.play(9));
    }

    private static void promise25SetTempo() {
        GongCircle x = circle();
        Due.isIllegal("25 tempo 99", () -> x.setTempo(99));
        Due.isIllegal("25 tempo 5001", () -> x.setTempo(5001));
        Due.isIllegal("25 tempo -1000", () -> x.setTempo(-1000));
        Due.is("25 1000 at first", 1000, () -> x.setTempo(100));
        x.begin(0);
        x.play(1);
        Due.is("25 the one before", 100, () -> x.setTempo(5000));
        x.play(2);
        Due.is("25 from now on", 10100L, () -> x.elapsed());
        Due.is("25 the one before", 5000, () -> x.setTempo(1000));
    }

    private static void promise26Bend() {
        GongCircle x = circle();
        Due.isIllegal("26 bend 49", () -> x.bend(49));
        Due.isIllegal("26 bend 201", () -> x.bend(201));
        Due.isIllegal("26 bend -100", () -> x.bend(-100));
        Due.is("26 100 at first", 100, () -> x.bend(200));
        x.begin(0);
        x.play(1);
        Due.is("26 the one before", 200, () -> x.bend(50));
        x.play(2);
        Due.is("26 from now on", 3000L, () -> x.elapsed());
        Due.is("26 the one before", 50, () -> x.bend(100));
    }

    private static void promise27Elapsed() {
        GongCircle x = circle(9, 0);
        Due.is("27 at first", 0L, () -> x.elapsed());
        x.begin(0);
        Due.is("27 nothing was played", 0L, () -> x.elapsed());
        x.play(1);
        Due.is("27 a beat", 1000L, () -> x.elapsed());
        x.cueLevel(3, 9);
        x.play(3);
        Due.is("27 the level of the beat that ends the phrase", 4000L, () -> x.elapsed());
        x.play(4);
        Due.is("27 the least level", 8000L, () -> x.elapsed());
        x.play(1);
        Due.is("27 all at the level 3", 16000L, () -> x.elapsed());
        x.setTempo(333);
        x.bend(77);
        x.play(1);
        Due.is("27 cut, but not ahead of the end", 16000L + 333 * 8 * 77 / 100, () -> x.elapsed());
        x.setTempo(101);
        x.bend(51);
        x.play(2);
        Due.is("27 each beat is cut", 16000L + 2051 + 2 * 412, () -> x.elapsed());
        GongCircle y = circle();
        y.setTempo(199);
        y.bend(99);
        y.begin(0);
        y.play(2);
        Due.is("27 without any", 2L * 197, () -> y.elapsed());
        y.cueEnd(9);
        y.play(100);
        Due.is("27 only what was played", 8L * 197, () -> y.elapsed());
        GongCircle z = circle(9);
        z.setTempo(5000);
        z.bend(200);
        z.begin(1);
        z.cueLevel(3, 9);
        z.play(8);
        for (int i = 0; i < 200; i++) {
            z.play(256);
        }
        Due.is("27 a long one", 80000L + 200L * 256 * 80000, () -> z.elapsed());
    }

    private static void promise28Gongs() {
        GongCircle x = circle(9);
        x.begin(0);
        x.play(7);
        Due.is("28 none yet", 0, () -> x.gongs());
        x.play(1);
        Due.is("28 one", 1, () -> x.gongs());
        x.cueTune(1, 9);
        x.play(23);
        Due.is("28 two", 2, () -> x.gongs());
        x.cueEnd(9);
        x.play(100);
        Due.is("28 three, the last one too", 3, () -> x.gongs());
        x.begin(0);
        x.play(256);
        Due.is("28 and those of later tunes", 35, () -> x.gongs());
    }

    private static void promise29Meetings() {
        GongCircle x = circle(9, 5, 1, 0, 9);
        x.begin(0);
        x.play(8);
        Due.is("29 all at the level 0", 1, () -> x.meetings());
        x.cueLevel(2, 5);
        x.play(4);
        levels("29 they part", x, 2, 2, 0, 0, 2);
        x.play(4);
        Due.is("29 not met: asked ahead of the cue that is taken behind it", 1, () -> x.meetings());
        levels("29 they are together again", x, 2, 2, 2, 2, 2);
        x.play(8);
        Due.is("29 met at the level 2", 2, () -> x.meetings());
        x.play(4);
        x.cueLevel(1, 5);
        x.play(4);
        Due.is("29 met: asked ahead of the cue that parts them", 3, () -> x.meetings());
        levels("29 they part behind it", x, 1, 1, 2, 2, 1);
        x.play(4);
        x.play(4);
        Due.is("29 met again", 4, () -> x.meetings());
        Due.is("29 of all", 5, () -> x.gongs());
        GongCircle y = circle();
        y.begin(1);
        y.play(48);
        Due.is("29 nobody plays", 3, () -> y.meetings());
        metWithAllLayers();
    }

    // Answers, octaves and learnt runs do not keep a gong from being met.
    private static void metWithAllLayers() {
        int[] lasts = {14, 15, 16, 24, 36, 65, 66};
        for (int last : lasts) {
            GongCircle x = new GongCircle();
            Due.tune(x, 'l', 's', 8, 25, 0, 0, 56, 0, 35, 0, last);
            x.learn('s', 5, last / 10, 919);
            for (int i = 0; i < 5; i++) {
                x.addPlayer(50, 9, 31);
            }
            x.begin(0);
            for (int level = 0; level < 4; level++) {
                int want = level + 1;
                x.cueLevel(level, 9);
                x.play(4);
                levels("29 all together", x, level, level, level, level, level);
                x.play(4);
                Due.is("29 met at " + level + " with the last note " + last, want, () -> x.meetings());
            }
        }
    }

    private static void promise30GongsWithin() {
        GongCircle x = circle(9);
        Due.is("30 no time", 0, () -> x.gongsWithin(0, 0));
        Due.is("30 just not one", 0, () -> x.gongsWithin(0, 7999));
        Due.is("30 just one", 1, () -> x.gongsWithin(0, 8000));
        Due.is("30 of the other tune", 0, () -> x.gongsWithin(1, 15999));
        Due.is("30 of the other tune", 2, () -> x.gongsWithin(1, 32000));
        Due.is("30 the most", 1249, () -> x.gongsWithin(0, 9999999));
        x.bend(50);
        Due.is("30 without a bend", 1, () -> x.gongsWithin(0, 8000));
        x.begin(0);
        x.cueLevel(3, 9);
        x.play(8);
        Due.is("30 by the level 0", 1, () -> x.gongsWithin(0, 8000));
        x.setTempo(100);
        Due.is("30 by the tempo", 10, () -> x.gongsWithin(0, 8000));
        Due.isIllegal("30 time -1", () -> x.gongsWithin(0, -1));
        Due.isIllegal("30 time 10000000", () -> x.gongsWithin(0, 10000000));
        Due.isOutside("30 tune 2, ahead of the time", () -> x.gongsWithin(2, -1));
        Due.isOutside("30 tune -1", () -> x.gongsWithin(-1, 0));
    }
}
