/** Promises 10 to 12: patterns, densities and lines. */
public final class LinesTest {
    public static void main(String[] args) {
        promise10Learn();
        promise10Counts();
        promise11Density();
        promise12Skeleton();
        promise12Walking();
        promise12Answering();
        promise12Octaves();
        promise12Runs();
        promise12RunsOfSeven();
        promise12LearntRuns();
        promise12Exceptions();
        Due.end();
    }

    private static void line(GongCircle x, int tune, int layer, int level, int from, int... want) {
        int beat = from;
        int stroke = 0;
        for (int one : want) {
            int b = beat;
            int s = stroke;
            Due.is("12 line " + layer + " at " + level + ", beat " + b + ", stroke " + s, one,
                    () -> x.lineAt(tune, layer, level, b, s));
            stroke++;
            if (stroke == x.density(layer, level)) {
                stroke = 0;
                beat++;
            }
        }
    }

    private static void promise10Learn() {
        GongCircle x = new GongCircle();
        Due.isIllegal("10 no such tuning", () -> x.learn('x', 1, 1, 555));
        Due.isIllegal("10 4 is not of s", () -> x.learn('s', 4, 1, 555));
        Due.isIllegal("10 7 is not of s", () -> x.learn('s', 1, 7, 555));
        Due.isIllegal("10 figure 0", () -> x.learn('p', 0, 1, 555));
        Due.isIllegal("10 figure 8", () -> x.learn('p', 1, 8, 555));
        Due.isIllegal("10 figure -1", () -> x.learn('p', -1, 1, 555));
        int[] steps = {-555, 0, 11, 99, 110, 101, 505, 550, 990, 1000, 1111, Integer.MAX_VALUE, Integer.MIN_VALUE};
        for (int wrong : steps) {
            Due.isIllegal("10 steps " + wrong, () -> x.learn('s', 1, 1, wrong));
        }
        Due.is("10 the first", 1, () -> x.learn('s', 1, 1, 111));
        Due.is("10 in place of it", 1, () -> x.learn('s', 1, 1, 999));
        Due.is("10 in the other tuning", 2, () -> x.learn('p', 1, 1, 111));
        Due.is("10 with other figures", 3, () -> x.learn('p', 1, 2, 111));
        Due.is("10 the other way round", 4, () -> x.learn('p', 2, 1, 111));
    }

    private static void promise10Counts() {
        GongCircle x = new GongCircle();
        for (int i = 0; i < 12; i++) {
            int at = i;
            Due.is("10 up to 12", at + 1, () -> x.learn('p', at / 7 + 1, at % 7 + 1, 555));
        }
        Due.isUntimely("10 there are 12", () -> x.learn('s', 1, 1, 555));
        Due.isIllegal("10 both: the steps first", () -> x.learn('s', 1, 1, 5));
        Due.isUntimely("10 there are 12, in place of one too", () -> x.learn('p', 1, 1, 999));
        Due.tune(x, 'l', 'p', 8, 15);
        line(x, 0, 4, 0, 4, 15, 15, 15, 15);
        Due.tune(x, 'l', 's', 8, 15);
        line(x, 1, 4, 0, 4, 25, 15, 25, 15);
    }

    private static void promise11Density() {
        GongCircle x = new GongCircle();
        int[] least = {1, 2, 4, 1, 4};
        for (int layer = 0; layer < 5; layer++) {
            for (int level = 0; level < 4; level++) {
                int a = layer;
                int b = level;
                int want = a == 0 || a == 3 ? 1 : least[a] << b;
                Due.is("11 density " + a + " " + b, want, () -> x.density(a, b));
            }
        }
        Due.isIllegal("11 layer 5", () -> x.density(5, 0));
        Due.isIllegal("11 layer -1", () -> x.density(-1, 0));
        Due.isIllegal("11 level 4", () -> x.density(0, 4));
        Due.isIllegal("11 level -1", () -> x.density(4, -1));
    }

    private static void promise12Skeleton() {
        GongCircle x = new GongCircle();
        Due.tune(x, 'l', 's', 8, 15, 0, 26, 34, 0, 0, 55, 64);
        for (int level = 0; level < 4; level++) {
            line(x, 0, 0, level, 1, 15, 0, 26, 34, 0, 0, 55, 64);
        }
    }

    private static void promise12Walking() {
        GongCircle x = new GongCircle();
        Due.tune(x, 'l', 's', 8, 15, 26, 0, 34, 0, 0, 55, 64);
        line(x, 0, 1, 0, 1, 15, 26, 15, 26, 34, 34, 34, 34, 64, 64, 64, 64, 55, 64, 55, 64);
        line(x, 0, 1, 1, 2, 15, 26, 15, 26);
        Due.tune(x, 'l', 's', 8, 15, 0, 0, 0, 0, 0, 55, 64);
        line(x, 1, 1, 0, 1, 15, 15, 15, 15, 15, 15, 15, 15, 64, 64, 64, 64, 55, 64, 55, 64);
        line(x, 1, 1, 3, 8, 55, 64, 55, 64, 55, 64, 55, 64, 55, 64, 55, 64, 55, 64, 55, 64);
    }

    private static void promise12Answering() {
        GongCircle x = new GongCircle();
        Due.tune(x, 'l', 's', 8, 15, 0, 66, 65, 0, 0, 64, 35);
        line(x, 0, 2, 0, 1, 15, 25, 15, 25, 66, 56, 66, 56, 66, 56, 66, 56, 65, 16, 65, 16);
        line(x, 0, 2, 0, 5, 64, 15, 64, 15, 64, 15, 64, 15, 64, 15, 64, 15, 35, 55, 35, 55);
        line(x, 0, 2, 1, 8, 35, 55, 35, 55, 35, 55, 35, 55);
        Due.tune(x, 'l', 'p', 8, 76, 75, 35, 74, 0, 0, 0, 65);
        line(x, 1, 2, 0, 1, 76, 66, 76, 66, 75, 16, 75, 16, 35, 45, 35, 45, 74, 15, 74, 15);
        line(x, 1, 2, 0, 5, 65, 75, 65, 75);
    }

    private static void promise12Octaves() {
        GongCircle x = new GongCircle();
        Due.tune(x, 'l', 's', 8, 15, 25, 35, 56, 15, 25, 0, 34);
        for (int level = 0; level < 4; level++) {
            line(x, 0, 3, level, 1, 0, 54, 0, 54, 0, 36, 0, 36);
        }
        Due.tune(x, 'l', 's', 8, 15, 25, 35, 55, 15, 0, 0, 25);
        line(x, 1, 3, 0, 1, 0, 56, 0, 56, 0, 26, 0, 26);
    }

    private static void promise12Runs() {
        GongCircle x = new GongCircle();
        // goals: 15, then 64: the run to 15 comes from 64, the place below 15
        Due.tune(x, 'l', 's', 8, 25, 0, 35, 15, 64, 65, 15, 64);
        line(x, 0, 4, 0, 1, 64, 15, 64, 15, 64, 15, 64, 15, 64, 15, 64, 15, 64, 15, 64, 15);
        line(x, 0, 4, 0, 5, 15, 25, 15, 25, 15, 25, 15, 25);
        line(x, 0, 4, 0, 7, 15, 25, 15, 25, 15, 25, 15, 64);
        // goals: 66, the highest, and 66 again: left by the place below
        Due.tune(x, 'l', 's', 8, 66);
        line(x, 1, 4, 0, 4, 56, 66, 56, 66);
        // goals 14 (the lowest) and 66 (the highest): 14 places apart
        Due.tune(x, 'l', 's', 8, 14, 14, 14, 14, 66, 66, 66, 66);
        line(x, 2, 4, 0, 1, 56, 66, 56, 36, 26, 16, 65, 55, 35, 25, 15, 64, 54, 34, 24, 14);
        line(x, 2, 4, 0, 5, 24, 14, 24, 34, 54, 64, 15, 25, 35, 55, 65, 16, 26, 36, 56, 66);
        line(x, 2, 4, 1, 3, 56, 66, 56, 36, 26, 16, 65, 55, 35, 25, 15, 64, 54, 34, 24, 14);
        line(x, 2, 4, 1, 1, 56, 66, 56, 66, 56, 66, 56, 66, 56, 66, 56, 66, 56, 66, 56, 66);
        line(x, 2, 4, 3, 5, 24, 14, 24, 14);
    }

    private static void promise12RunsOfSeven() {
        GongCircle x = new GongCircle();
        // goals 14 and 76 are 20 places apart: at level 0 the run does not reach the goal ahead
        Due.tune(x, 'l', 'p', 8, 14, 14, 14, 14, 76, 76, 76, 76);
        line(x, 0, 4, 0, 1, 26, 16, 75, 65, 55, 45, 35, 25, 15, 74, 64, 54, 44, 34, 24, 14);
        line(x, 0, 4, 1, 1, 66, 76, 66, 76, 66, 76, 66, 76, 66, 76, 66, 76, 66, 56, 46, 36);
    }

    private static void promise12LearntRuns() {
        GongCircle x = new GongCircle();
        Due.tune(x, 'l', 's', 8, 25, 0, 35, 15, 64, 65, 15, 64);
        x.learn('p', 6, 1, 999);
        x.learn('s', 1, 1, 999);
        line(x, 0, 4, 0, 4, 64, 15, 64, 15);
        x.learn('s', 6, 1, 649);
        line(x, 0, 4, 0, 3, 64, 15, 64, 15, 25, 64, 65, 15);
        line(x, 0, 4, 0, 8, 15, 25, 15, 64);
        line(x, 0, 4, 3, 4, 64, 15, 64, 15);
        Due.is("12 the last four at level 3", 25, () -> x.lineAt(0, 4, 3, 4, 28));
        Due.is("12 the last four at level 3", 65, () -> x.lineAt(0, 4, 3, 4, 30));
        Due.is("12 ahead of them at level 3", 15, () -> x.lineAt(0, 4, 3, 4, 27));
        x.learn('s', 6, 1, 195);
        line(x, 0, 4, 0, 4, 24, 65, 15, 15);
        // the second goal is 64, place -1, its goal ahead 15: held within -5 and 9
        x.learn('s', 1, 6, 156);
        line(x, 0, 4, 0, 7, 15, 25, 15, 25, 14, 64, 15, 64);
        Due.tune(x, 'l', 's', 8, 66);
        x.learn('s', 6, 6, 951);
        line(x, 1, 4, 0, 3, 56, 66, 56, 66, 66, 66, 16, 66);
        Due.tune(x, 'l', 's', 8, 14);
        x.learn('s', 1, 1, 159);
        line(x, 2, 4, 0, 3, 24, 14, 24, 14, 14, 14, 64, 14);
    }

    private static void promise12Exceptions() {
        GongCircle x = new GongCircle();
        Due.isOutside("12 no tune, ahead of the rest", () -> x.lineAt(0, 5, 4, 0, -1));
        Due.tune(x, 'l', 's', 8, 15);
        Due.isOutside("12 tune 1", () -> x.lineAt(1, 0, 0, 1, 0));
        Due.isOutside("12 tune -1", () -> x.lineAt(-1, 0, 0, 1, 0));
        Due.isIllegal("12 layer 5", () -> x.lineAt(0, 5, 0, 1, 0));
        Due.isIllegal("12 layer -1", () -> x.lineAt(0, -1, 0, 1, 0));
        Due.isIllegal("12 level 4", () -> x.lineAt(0, 0, 4, 1, 0));
        Due.isIllegal("12 level -1", () -> x.lineAt(0, 0, -1, 1, 0));
        Due.isIllegal("12 beat 0", () -> x.lineAt(0, 0, 0, 0, 0));
        Due.isIllegal("12 beat 9, ahead of the stroke", () -> x.lineAt(0, 0, 0, 9, 7));
        int[] most = {1, 2, 4, 1, 4};
        for (int layer = 0; layer < 5; layer++) {
            int a = layer;
            Due.is("12 the last stroke", true, () -> x.lineAt(0, a, 0, 2, most[a] - 1) > 0);
            Due.isMissing("12 a stroke more", () -> x.lineAt(0, a, 0, 2, most[a]));
            Due.isMissing("12 a stroke less", () -> x.lineAt(0, a, 0, 2, -1));
        }
        Due.isMissing("12 a stroke more at level 3", () -> x.lineAt(0, 4, 3, 2, 32));
    }
}
