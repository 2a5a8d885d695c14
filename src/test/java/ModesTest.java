/** Promises 43 to 47: modes, villages, and tunes that are written alike. */
public final class ModesTest {
    public static void main(String[] args) {
        promise43AddMode();
        promise44IsProper();
        promise45Vary();
        promise46VillageNote();
        promise47AreWrittenAlike();
        Due.end();
    }

    private static void promise43AddMode() {
        GongCircle x = new GongCircle();
        Due.isIllegal("43 figure 0", () -> x.addMode(0, 0, 0));
        Due.isIllegal("43 figure 8", () -> x.addMode(8, 0, 0));
        Due.isIllegal("43 from -1", () -> x.addMode(1, -1, 0));
        Due.isIllegal("43 from 24", () -> x.addMode(1, 24, 0));
        Due.isIllegal("43 to -1", () -> x.addMode(1, 0, -1));
        Due.isIllegal("43 to 24", () -> x.addMode(1, 0, 24));
        Due.is("43 the first", 0, () -> x.addMode(1, 0, 0));
        Due.is("43 the second", 1, () -> x.addMode(7, 23, 23));
        for (int i = 2; i < 8; i++) {
            int want = i;
            Due.is("43 up to 8", want, () -> x.addMode(4, 5, 3));
        }
        Due.isUntimely("43 there are 8", () -> x.addMode(1, 0, 0));
        Due.isIllegal("43 both: out of range first", () -> x.addMode(0, 0, 0));
        Due.tune(x, 'l', 's', 8, 15);
        Due.isOutside("43 no ninth mode", () -> x.isProper(0, 8, 0));
    }

    private static void promise44IsProper() {
        GongCircle x = new GongCircle();
        Due.isOutside("44 no tune, no mode", () -> x.isProper(0, 0, 24));
        Due.tune(x, 'l', 's', 8, 15, 25, 35, 64);
        Due.isOutside("44 no mode", () -> x.isProper(0, 0, 0));
        x.addMode(6, 8, 10);
        x.addMode(6, 22, 2);
        x.addMode(6, 5, 5);
        x.addMode(5, 0, 23);
        for (int hour = 0; hour < 24; hour++) {
            int h = hour;
            Due.is("44 from 8 to 10 at " + h, h >= 8 && h <= 10, () -> x.isProper(0, 0, h));
            Due.is("44 from 22 to 2 at " + h, h >= 22 || h <= 2, () -> x.isProper(0, 1, h));
            Due.is("44 from 5 to 5 at " + h, h == 5, () -> x.isProper(0, 2, h));
            Due.is("44 another figure at " + h, false, () -> x.isProper(0, 3, h));
        }
        Due.isIllegal("44 hour -1", () -> x.isProper(0, 0, -1));
        Due.isIllegal("44 hour 24", () -> x.isProper(0, 0, 24));
        Due.isOutside("44 tune 1, ahead of the hour", () -> x.isProper(1, 0, 24));
        Due.isOutside("44 tune -1", () -> x.isProper(-1, 0, 0));
        Due.isOutside("44 mode 4, ahead of the hour", () -> x.isProper(0, 4, 24));
        Due.isOutside("44 mode -1", () -> x.isProper(0, -1, 0));
    }

    private static void promise45Vary() {
        GongCircle x = new GongCircle();
        Due.isOutside("45 no tune, ahead of the rest", () -> x.vary(0, 4, 0, 9, 2));
        Due.tune(x, 'm', 's', 16, 15, 0, 36, 54);
        Due.isIllegal("45 village 4", () -> x.vary(0, 4, 1, 1, 0));
        Due.isIllegal("45 village -1", () -> x.vary(0, -1, 1, 1, 0));
        Due.isIllegal("45 beat 0", () -> x.vary(0, 0, 0, 1, 0));
        Due.isIllegal("45 beat 17", () -> x.vary(0, 0, 17, 1, 0));
        Due.isIllegal("45 figure -1", () -> x.vary(0, 0, 1, -1, 0));
        Due.isIllegal("45 figure 8", () -> x.vary(0, 0, 1, 8, 0));
        Due.isIllegal("45 4 is not of s", () -> x.vary(0, 0, 1, 4, 0));
        Due.isIllegal("45 register 2", () -> x.vary(0, 0, 1, 1, 2));
        Due.isIllegal("45 register -2 of a rest", () -> x.vary(0, 0, 1, 0, -2));
        Due.isIllegal("45 the range ahead of the phrase", () -> x.vary(0, 0, 8, 1, 2));
        Due.isIllegal("45 the figure ahead of the phrase", () -> x.vary(0, 0, 16, 7, 0));
        Due.isUnsupported("45 a hung stroke ends a phrase", () -> x.vary(0, 0, 8, 1, 0));
        Due.isUnsupported("45 the gong ends a phrase", () -> x.vary(0, 3, 16, 1, 0));
        Due.is("45 nothing was told", 15, () -> x.villageNote(0, 0, 1));
        Due.is("45 nothing was told", 54, () -> x.villageNote(0, 0, 8));
        Due.is("45 the one of the tune", 15, () -> x.vary(0, 0, 1, 6, 1));
        Due.is("45 the one before", 66, () -> x.vary(0, 0, 1, 0, 1));
        Due.is("45 a rest", 0, () -> x.vary(0, 0, 1, 2, -1));
        Due.is("45 a rest of the tune", 0, () -> x.vary(0, 0, 2, 2, 0));
        Due.is("45 of another village", 15, () -> x.vary(0, 3, 1, 3, 0));
        Due.is("45 within a phrase", 54, () -> x.vary(0, 3, 4, 3, 0));
        Due.isOutside("45 tune 1", () -> x.vary(1, 0, 1, 1, 0));
        Due.isOutside("45 tune -1", () -> x.vary(-1, 0, 1, 1, 0));
        Due.tune(x, 'l', 'p', 8, 15);
        Due.is("45 4 is of p", 15, () -> x.vary(1, 0, 1, 4, 0));
        Due.isUnsupported("45 in l, each fourth beat", () -> x.vary(1, 0, 4, 4, 0));
        variantsAreNotTheTune(x);
    }

    private static void variantsAreNotTheTune(GongCircle x) {
        GongCircle y = new GongCircle();
        Due.tune(y, 'm', 's', 16, 15, 0, 36, 54);
        Due.tune(y, 'l', 'p', 8, 15);
        Due.is("45 the tune itself stays", 15, () -> x.noteAt(0, 1));
        Due.is("45 lines are made of the tune itself", 15, () -> x.lineAt(0, 2, 0, 1, 0));
        Due.is("45 so is the checksum", y.checksum(), () -> x.checksum());
    }

    private static void promise46VillageNote() {
        GongCircle x = new GongCircle();
        Due.tune(x, 'l', 's', 8, 15, 0, 36, 54);
        x.vary(0, 1, 3, 6, -1);
        x.vary(0, 1, 5, 0, 0);
        int[] tune = {15, 0, 36, 54, 15, 0, 36, 54};
        for (int beat = 1; beat <= 8; beat++) {
            int b = beat;
            Due.is("46 the village 0 has the tune", tune[b - 1], () -> x.villageNote(0, 0, b));
            Due.is("46 the village 3 has the tune", tune[b - 1], () -> x.villageNote(0, 3, b));
            int want = b == 3 ? 64 : b == 5 ? 0 : tune[b - 1];
            Due.is("46 the village 1", want, () -> x.villageNote(0, 1, b));
        }
        Due.isIllegal("46 village 4", () -> x.villageNote(0, 4, 1));
        Due.isIllegal("46 village -1", () -> x.villageNote(0, -1, 1));
        Due.isIllegal("46 beat 0", () -> x.villageNote(0, 0, 0));
        Due.isIllegal("46 beat 9", () -> x.villageNote(0, 0, 9));
        Due.isOutside("46 tune 1, ahead of the rest", () -> x.villageNote(1, 4, 0));
        Due.isOutside("46 tune -1", () -> x.villageNote(-1, 0, 1));
    }

    private static void promise47AreWrittenAlike() {
        GongCircle x = new GongCircle();
        Due.tune(x, 'l', 's', 8, 15, 0, 36, 54);
        Due.tune(x, 'l', 's', 8, 14, 0, 35, 56);
        Due.tune(x, 'f', 's', 8, 15, 0, 36, 54);
        Due.tune(x, 'l', 'p', 8, 15, 0, 36, 54);
        Due.tune(x, 'l', 's', 8, 15, 15, 36, 54);
        Due.tune(x, 'f', 's', 12, 15, 0, 36, 54);
        boolean[][] want = new boolean[6][6];
        for (int i = 0; i < 6; i++) {
            want[i][i] = true;
        }
        want[0][1] = true;
        want[1][0] = true;
        for (int i = 0; i < 6; i++) {
            for (int j = 0; j < 6; j++) {
                int a = i;
                int b = j;
                Due.is("47 " + a + " and " + b, want[a][b], () -> x.areWrittenAlike(a, b));
            }
        }
        GongCircle y = new GongCircle();
        Due.tune(y, 'l', 'p', 8, 15, 25, 35, 45, 55, 65, 75, 15);
        Due.tune(y, 'l', 'p', 8, 15, 25, 35, 45, 55, 65, 75, 25);
        Due.tune(y, 'l', 'p', 8, 25, 25, 35, 45, 55, 65, 75, 15);
        Due.is("47 the last figure is another one", false, () -> y.areWrittenAlike(0, 1));
        Due.is("47 the first figure is another one", false, () -> y.areWrittenAlike(0, 2));
        Due.isOutside("47 tune 6", () -> x.areWrittenAlike(6, 0));
        Due.isOutside("47 other 6", () -> x.areWrittenAlike(0, 6));
        Due.isOutside("47 tune -1", () -> x.areWrittenAlike(-1, 0));
        Due.isOutside("47 other -1", () -> x.areWrittenAlike(0, -1));
    }
}
