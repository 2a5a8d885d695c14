/** Objects to ask, made by the same calls each time, and all that such an object shows. */
final class Made {
    private Made() {
    }

    static GongCircle empty() {
        return new GongCircle();
    }

    /**
     * Three tunes, five players with seats and one who is absent, two sets, three pairs, two modes, two patterns and
     * three notes; nothing is played.
     */
    static GongCircle idle() {
        GongCircle x = new GongCircle();
        Due.tune(x, 'l', 's', 8, 15, 0, 36, 54, 0, 0, 24, 64);
        Due.tune(x, 'm', 'p', 16, 14, 45, 0, 76, 0, 0, 35, 66);
        Due.tune(x, 'f', 's', 12, 0, 25, 35, 0, 56, 66);
        x.learn('s', 6, 5, 649);
        x.learn('p', 6, 7, 951);
        x.addPlayer(60, 9, 31);
        x.addPlayer(57, 5, 31);
        x.addPlayer(54, 2, 31);
        x.addPlayer(51, 0, 16);
        x.addPlayer(48, 7, 31);
        x.addPlayer(99, 9, 31);
        x.setAbsent(5, true);
        x.addSet('s', 300);
        x.addSet('p', 300);
        x.setGap(0, 3, 250);
        x.setGap(1, 7, 123);
        x.addPair(1500, 1540);
        x.addPair(2000, 2000);
        x.addPair(1000, 99999);
        x.file(0, true, 7);
        x.drift(6);
        x.addMode(6, 22, 4);
        x.addMode(6, 5, 12);
        x.vary(0, 1, 3, 2, -1);
        x.vary(1, 3, 2, 0, 0);
        x.setTempo(750);
        x.bend(110);
        Due.note(x, 35, 0, 66);
        return x;
    }

    /** As the idle one, on the sixth beat of the tune 0, some having taken a level, and cues that are not taken yet. */
    static GongCircle busy() {
        GongCircle x = idle();
        x.begin(0);
        x.play(2);
        x.cueLevel(2, 5);
        x.play(4);
        x.cueTune(1, 2);
        return x;
    }

    /** As many of each as there may be; the tune 0 is played, its end is cued. */
    static GongCircle full() {
        GongCircle x = new GongCircle();
        Due.tune(x, 'l', 's', 8, 15, 0, 36, 65);
        // the goals 1 behind 6 and 5 behind 7, so that patterns for these are seen
        Due.tune(x, 'l', 's', 8, 25, 0, 36, 15, 15, 0, 36, 65);
        Due.tune(x, 'l', 's', 8, 15, 0, 36, 64);
        Due.tune(x, 'l', 'p', 8, 15, 0, 36, 66);
        Due.tune(x, 'l', 'p', 8, 25, 0, 46, 55, 15, 0, 36, 75);
        Due.tune(x, 'f', 'p', 12, 15, 0, 36, 65);
        for (int figure : new int[] {1, 2, 3, 5, 6}) {
            x.learn('s', 6, figure, 919);
        }
        for (int figure = 1; figure <= 7; figure++) {
            x.learn('p', figure, 6, 199);
        }
        for (int i = 0; i < 8; i++) {
            x.addPlayer(40 + i, 9 - i, 31 - i);
        }
        for (int i = 0; i < 4; i++) {
            x.addSet(i % 2 == 0 ? 's' : 'p', 100 * i);
        }
        for (int i = 0; i < 10; i++) {
            x.addPair(1000 + i, 1000 + 3 * i);
        }
        for (int i = 0; i < 8; i++) {
            x.addMode(6, 3 * i, 23 - i);
        }
        x.begin(0);
        x.play(9);
        x.cueLevel(3, 6);
        x.cueEnd(9);
        Due.note(x, 15, 0);
        for (int i = 0; i < 5; i++) {
            x.repeatNotes();
        }
        return x;
    }

    interface Call {
        Object of(GongCircle x);
    }

    private static void show(StringBuilder shown, GongCircle x, Call call) {
        Object told;
        try {
            told = call.of(x);
        } catch (RuntimeException e) {
            told = e.getClass().getSimpleName();
        }
        shown.append(told).append(' ');
    }

    /** All that an object shows, told by many calls; what it holds is changed by them. */
    static String shown(GongCircle x) {
        StringBuilder shown = new StringBuilder();
        showCounts(shown, x);
        showTunes(shown, x);
        showSets(shown, x);
        showPlayers(shown, x);
        showWhatIsAhead(shown, x);
        showPairs(shown, x);
        showHowMany(shown, x);
        showNotes(shown, x);
        return shown.toString();
    }

    private static void showCounts(StringBuilder shown, GongCircle x) {
        show(shown, x, y -> y.checksum());
        show(shown, x, y -> y.elapsed());
        show(shown, x, y -> y.gongs());
        show(shown, x, y -> y.meetings());
        show(shown, x, y -> y.metShare());
        show(shown, x, y -> y.meanBeating());
        show(shown, x, y -> y.isSound());
        show(shown, x, y -> y.tune());
        show(shown, x, y -> y.beat());
    }

    private static void showTunes(StringBuilder shown, GongCircle x) {
        for (int i = 0; i < 6; i++) {
            int tune = i;
            show(shown, x, y -> y.phrases(tune));
            show(shown, x, y -> y.areWrittenAlike(0, tune));
            for (int j = 0; j < 4; j++) {
                int number = j;
                show(shown, x, y -> y.lineAt(tune, 4, 0, 4, number));
                show(shown, x, y -> y.villageNote(tune, number, 2));
                show(shown, x, y -> y.villageNote(tune, number, 3));
                show(shown, x, y -> y.villageNote(tune, number, 4));
            }
            show(shown, x, y -> y.villageNote(tune, 0, 8));
            show(shown, x, y -> y.villageNote(tune, 0, 16));
        }
        for (int i = 0; i < 8; i++) {
            int mode = i;
            show(shown, x, y -> y.isProper(0, mode, 4));
            show(shown, x, y -> y.isProper(0, mode, 17));
        }
    }

    private static void showSets(StringBuilder shown, GongCircle x) {
        for (int i = 0; i < 4; i++) {
            int set = i;
            show(shown, x, y -> y.pitch(set, 1, 1));
            for (int j = 1; j <= 7; j++) {
                int figure = j;
                show(shown, x, y -> y.pitch(set, figure, 0));
            }
        }
    }

    private static void showPlayers(StringBuilder shown, GongCircle x) {
        for (int i = 0; i < 8; i++) {
            int player = i;
            show(shown, x, y -> y.seatOf(player));
            show(shown, x, y -> y.levelOf(player));
            show(shown, x, y -> y.setAbsent(player, false));
        }
    }

    // The tempo, the bend, and the cues that are not taken yet.
    private static void showWhatIsAhead(StringBuilder shown, GongCircle x) {
        for (int i = 0; i < 6; i++) {
            show(shown, x, y -> y.play(4));
            show(shown, x, y -> y.elapsed());
            show(shown, x, y -> y.tune());
            for (int j = 0; j < 8; j++) {
                int player = j;
                show(shown, x, y -> y.levelOf(player));
            }
        }
        show(shown, x, y -> y.setTempo(100));
        show(shown, x, y -> y.bend(50));
        show(shown, x, y -> y.begin(0));
    }

    private static void showPairs(StringBuilder shown, GongCircle x) {
        for (int i = 0; i < 10; i++) {
            int pair = i;
            show(shown, x, y -> y.replace(pair, false, 1000));
            show(shown, x, y -> y.replace(pair, true, 99999));
        }
        show(shown, x, y -> y.drift(1));
    }

    private static void showHowMany(StringBuilder shown, GongCircle x) {
        show(shown, x, y -> y.addPlayer(10, 0, 0));
        show(shown, x, y -> y.addSet('s', 0));
        show(shown, x, y -> y.addPair(1000, 1000));
        show(shown, x, y -> y.addMode(1, 0, 0));
        show(shown, x, y -> y.learn('p', 7, 6, 555));
    }

    // If there is room for a tune, notes are added until they make one, so that those that were there can be asked.
    private static void showNotes(StringBuilder shown, GongCircle x) {
        boolean isRoom = isRoomForTunes(x);
        int made = isRoom ? tuneOrNone(x) : -1;
        for (int i = 0; i < 12 && isRoom && made < 0; i++) {
            show(shown, x, y -> y.addNote(1, 0));
            made = tuneOrNone(x);
        }
        int tune = made;
        show(shown, x, y -> y.clearNotes());
        for (int i = 1; i <= 64 && tune >= 0; i++) {
            int beat = i;
            show(shown, x, y -> y.noteAt(tune, beat));
        }
    }

    private static boolean isRoomForTunes(GongCircle x) {
        try {
            x.phrases(5);
            return false;
        } catch (IndexOutOfBoundsException e) {
            return true;
        }
    }

    private static int tuneOrNone(GongCircle x) {
        try {
            return x.addTune('f', 'p');
        } catch (UnsupportedOperationException e) {
            return -1;
        }
    }
}
