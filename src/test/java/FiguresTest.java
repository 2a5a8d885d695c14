/** Promises 48 to 51: the checksum, the share of meetings, the mean of beatings, and soundness. */
public final class FiguresTest {
    public static void main(String[] args) {
        promise48Checksum();
        promise49MetShare();
        promise50MeanBeating();
        promise51IsSound();
        Due.end();
    }

    private static long sum(long before, int... parts) {
        long sum = before;
        for (int part : parts) {
            sum = 31 * sum + part;
        }
        return sum;
    }

    private static void promise48Checksum() {
        GongCircle x = new GongCircle();
        Due.is("48 without tunes", 7L, () -> x.checksum());
        Due.note(x, 15, 25);
        Due.is("48 what is noted does not count", 7L, () -> x.checksum());
        Due.tune(x, 'l', 's', 8, 15, 25, 36, 0, 0, 0, 0, 64);
        long one = sum(7, 8, 15, 25, 36, 0, 0, 0, 0, 64, 36, 64);
        Due.is("48 a tune", one, () -> x.checksum());
        Due.tune(x, 'f', 'p', 12, 0, 0, 0, 0, 45, 74, 0, 0, 0, 0, 0, 26);
        long two = sum(one, 12, 0, 0, 0, 0, 45, 74, 0, 0, 0, 0, 0, 26, 26, 74, 26);
        Due.is("48 two tunes", two, () -> x.checksum());
        x.learn('s', 6, 3, 999);
        x.vary(0, 0, 1, 5, 1);
        Due.is("48 nothing else counts", two, () -> x.checksum());
    }

    private static void promise49MetShare() {
        GongCircle x = new GongCircle();
        Due.fails("49 no gongs", ArithmeticException.class, () -> x.metShare());
        Due.tune(x, 'l', 's', 8, 15);
        x.addPlayer(50, 9, 1);
        x.addPlayer(50, 0, 2);
        x.begin(0);
        x.play(7);
        Due.fails("49 no gongs yet", ArithmeticException.class, () -> x.metShare());
        x.play(1);
        Due.is("49 one of one", 1.0f, () -> x.metShare());
        x.cueLevel(1, 9);
        x.play(8);
        Due.is("49 one of two", 0.5f, () -> x.metShare());
        x.play(8);
        Due.is("49 two of three", 2.0f / 3.0f, () -> x.metShare());
        GongCircle y = new GongCircle();
        Due.tune(y, 'l', 's', 8, 15);
        y.addPlayer(50, 9, 1);
        y.addPlayer(50, 0, 2);
        y.begin(0);
        y.cueLevel(1, 9);
        y.play(8);
        Due.is("49 none of one", 0.0f, () -> y.metShare());
    }

    private static void promise50MeanBeating() {
        GongCircle x = new GongCircle();
        Due.fails("50 no pairs", ArithmeticException.class, () -> x.meanBeating());
        x.addPair(1000, 1003);
        Due.is("50 one pair", 3.0, () -> x.meanBeating());
        x.addPair(1000, 1000);
        Due.is("50 two pairs", 1.5, () -> x.meanBeating());
        x.addPair(1000, 1005);
        Due.is("50 three pairs", 8.0 / 3.0, () -> x.meanBeating());
        for (int i = 3; i < 10; i++) {
            x.addPair(1000, 99999);
        }
        Due.is("50 ten pairs", (8 + 7 * 98999) / 10.0, () -> x.meanBeating());
    }

    private static void promise51IsSound() {
        GongCircle x = new GongCircle();
        Due.is("51 at first", true, () -> x.isSound());
        Due.tune(x, 'l', 's', 8, 15, 0, 36, 0, 0, 54, 0, 66);
        Due.tune(x, 'o', 'p', 64, 14, 0, 36, 44, 0, 74, 0, 76);
        Due.tune(x, 'f', 'p', 12, 0, 0, 0, 0, 0, 0, 0, 0, 0, 0, 0, 14);
        x.learn('s', 6, 3, 111);
        x.learn('p', 7, 4, 999);
        x.learn('p', 1, 1, 191);
        for (int i = 0; i < 8; i++) {
            x.addPlayer(50, 9, 31);
        }
        x.addPair(1000, 1000);
        x.begin(0);
        x.play(12);
        x.drift(60);
        Due.is("51 with all there is", true, () -> x.isSound());
        x.setAbsent(2, true);
        Due.is("51 with other seats", true, () -> x.isSound());
    }
}
