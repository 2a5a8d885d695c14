/** Promises 31 to 36: sets, bridges and suites. */
public final class SetsTest {
    public static void main(String[] args) {
        promise31AddSet();
        promise32SetGap();
        promise33Pitch();
        promise34Shared();
        promise35CanGoOn();
        promise36SuiteAt();
        promise36Ties();
        Due.end();
    }

    private static void promise31AddSet() {
        GongCircle x = new GongCircle();
        Due.isIllegal("31 no such tuning", () -> x.addSet('x', 0));
        Due.isIllegal("31 base -1", () -> x.addSet('s', -1));
        Due.isIllegal("31 base 10000", () -> x.addSet('p', 10000));
        Due.isOutside("31 none was added", () -> x.pitch(0, 1, 0));
        Due.is("31 the first", 0, () -> x.addSet('s', 0));
        Due.is("31 the second", 1, () -> x.addSet('p', 9999));
        Due.is("31 the third", 2, () -> x.addSet('s', 5));
        Due.is("31 the fourth", 3, () -> x.addSet('p', 5));
        Due.isUntimely("31 there are 4", () -> x.addSet('s', 0));
        Due.isIllegal("31 both: the tuning first", () -> x.addSet('x', 0));
        Due.isIllegal("31 both: the base first", () -> x.addSet('s', 10000));
        Due.is("31 its base", 9999, () -> x.pitch(1, 1, 0));
    }

    private static void promise32SetGap() {
        GongCircle x = new GongCircle();
        Due.isOutside("32 no set, ahead of the rest", () -> x.setGap(0, 4, 0));
        x.addSet('s', 0);
        x.addSet('p', 0);
        Due.is("32 1200 by 5", 240, () -> x.setGap(0, 6, 30));
        Due.is("32 1200 by 7, cut", 171, () -> x.setGap(1, 4, 500));
        Due.is("32 the one before", 30, () -> x.setGap(0, 6, 31));
        Due.is("32 the one before", 500, () -> x.setGap(1, 4, 499));
        Due.isIllegal("32 29 cents", () -> x.setGap(0, 1, 29));
        Due.isIllegal("32 501 cents", () -> x.setGap(0, 1, 501));
        Due.isIllegal("32 4 is not of s", () -> x.setGap(0, 4, 100));
        Due.isIllegal("32 7 is not of s", () -> x.setGap(0, 7, 100));
        Due.isIllegal("32 figure 0", () -> x.setGap(1, 0, 100));
        Due.isIllegal("32 figure 8", () -> x.setGap(1, 8, 100));
        Due.isOutside("32 set 2", () -> x.setGap(2, 1, 100));
        Due.isOutside("32 set -1", () -> x.setGap(-1, 1, 100));
        Due.is("32 nothing was set", 240, () -> x.setGap(0, 1, 240));
    }

    private static void promise33Pitch() {
        GongCircle x = new GongCircle();
        x.addSet('s', 1000);
        x.addSet('p', 0);
        int[] five = {1, 2, 3, 5, 6};
        for (int i = 0; i < 5; i++) {
            int at = i;
            for (int register = -1; register <= 1; register++) {
                int r = register;
                Due.is("33 of s", 1000 + 240 * at + 1200 * r, () -> x.pitch(0, five[at], r));
            }
        }
        for (int figure = 1; figure <= 7; figure++) {
            int f = figure;
            for (int register = -1; register <= 1; register++) {
                int r = register;
                Due.is("33 of p", 171 * (f - 1) + 1197 * r, () -> x.pitch(1, f, r));
            }
        }
        x.setGap(0, 3, 300);
        x.setGap(0, 6, 100);
        Due.is("33 below the gap", 1480, () -> x.pitch(0, 3, 0));
        Due.is("33 above the gap", 1780, () -> x.pitch(0, 5, 0));
        Due.is("33 the last gap is of the octave", 2020, () -> x.pitch(0, 6, 0));
        Due.is("33 the sum of the gaps", 1000 + 240 + 240 + 300 + 240 + 100, () -> x.pitch(0, 1, 1));
        Due.is("33 the sum of the gaps, lower", 1000 - 1120, () -> x.pitch(0, 1, -1));
        Due.isIllegal("33 register 2", () -> x.pitch(0, 1, 2));
        Due.isIllegal("33 register -2", () -> x.pitch(0, 1, -2));
        Due.isIllegal("33 4 is not of s", () -> x.pitch(0, 4, 0));
        Due.isIllegal("33 figure 0", () -> x.pitch(1, 0, 0));
        Due.isOutside("33 set 2, ahead of the rest", () -> x.pitch(2, 0, 2));
        Due.isOutside("33 set -1", () -> x.pitch(-1, 1, 0));
    }

    private static void promise34Shared() {
        GongCircle x = new GongCircle();
        x.addSet('s', 0);
        x.addSet('p', 0);
        x.addSet('s', 100);
        Due.is("34 the figure 1", 1, () -> x.shared(0, 1));
        Due.is("34 the same, of s", 1 + 2 + 4 + 16 + 32, () -> x.shared(0, 0));
        Due.is("34 the same, of p", 127, () -> x.shared(1, 1));
        Due.is("34 none", 0, () -> x.shared(0, 2));
        x.setGap(1, 1, 269);
        Due.is("34 3 at 480 is none of 440", 1, () -> x.shared(0, 1));
        x.setGap(1, 1, 309);
        Due.is("34 1 and 3", 1 + 4, () -> x.shared(1, 0));
        x.setGap(2, 1, 140);
        Due.is("34 all but 1", 2 + 4 + 16 + 32, () -> x.shared(2, 0));
        Due.isOutside("34 set 3", () -> x.shared(3, 0));
        Due.isOutside("34 other set 3", () -> x.shared(0, 3));
        Due.isOutside("34 set -1", () -> x.shared(-1, 0));
        Due.isOutside("34 other set -1", () -> x.shared(0, -1));
    }

    private static void promise35CanGoOn() {
        GongCircle x = new GongCircle();
        Due.tune(x, 'l', 's', 8, 15);
        Due.tune(x, 'm', 's', 16, 16);
        Due.tune(x, 'l', 's', 8, 15, 15, 15, 25);
        Due.tune(x, 'l', 'p', 8, 14);
        Due.tune(x, 'l', 'p', 8, 25);
        Due.is("35 one tuning, one figure, registers aside", true, () -> x.canGoOn(0, 1));
        Due.is("35 itself", true, () -> x.canGoOn(2, 2));
        Due.is("35 other figures", false, () -> x.canGoOn(0, 2));
        Due.is("35 other tunings without sets", false, () -> x.canGoOn(0, 3));
        x.addSet('s', 0);
        Due.is("35 without a set of the other tuning", false, () -> x.canGoOn(0, 3));
        x.addSet('s', 7);
        x.addSet('p', 7);
        Due.is("35 some set shares the figure", true, () -> x.canGoOn(0, 3));
        Due.is("35 and back", true, () -> x.canGoOn(3, 1));
        Due.is("35 no set shares this figure", false, () -> x.canGoOn(2, 4));
        x.setGap(2, 1, 240);
        Due.is("35 now one does", true, () -> x.canGoOn(4, 2));
        x.setGap(1, 1, 233);
        Due.is("35 now none does", false, () -> x.canGoOn(4, 2));
        x.setGap(0, 1, 247);
        Due.is("35 another one does", true, () -> x.canGoOn(2, 4));
        Due.isOutside("35 tune 5", () -> x.canGoOn(5, 0));
        Due.isOutside("35 next 5", () -> x.canGoOn(0, 5));
        Due.isOutside("35 tune -1", () -> x.canGoOn(-1, 0));
        Due.isOutside("35 next -1", () -> x.canGoOn(0, -1));
        GongCircle y = new GongCircle();
        Due.tune(y, 'l', 'p', 8, 45);
        Due.tune(y, 'l', 'p', 8, 44);
        y.addSet('p', 0);
        y.addSet('p', 5);
        Due.is("35 a figure of p alone", true, () -> y.canGoOn(0, 1));
    }

    private static void suite(GongCircle x, int... want) {
        for (int i = 0; i < want.length; i++) {
            int index = i;
            Due.is("36 tune " + index + " of the suite", want[index], () -> x.suiteAt(index));
        }
        Due.isMissing("36 behind the suite", () -> x.suiteAt(want.length));
        Due.isMissing("36 ahead of the suite", () -> x.suiteAt(-1));
    }

    private static void promise36SuiteAt() {
        GongCircle x = new GongCircle();
        suite(x);
        Due.isMissing("36 index of the least", () -> x.suiteAt(Integer.MIN_VALUE));
        Due.isMissing("36 index of the most", () -> x.suiteAt(Integer.MAX_VALUE));
        Due.tune(x, 'l', 's', 8, 15);
        suite(x, 0);
        Due.tune(x, 'l', 's', 8, 25);
        suite(x, 0);
        Due.tune(x, 'l', 'p', 8, 25);
        suite(x, 0);
        Due.tune(x, 'm', 's', 16, 24);
        suite(x, 1, 3);
        Due.tune(x, 'l', 'p', 8, 24);
        suite(x, 1, 3);
        Due.tune(x, 'l', 'p', 8, 26);
        suite(x, 2, 4, 5);
        x.addSet('s', 0);
        x.addSet('p', 69);
        suite(x, 1, 2, 3, 4, 5);
        x.setGap(1, 1, 30);
        suite(x, 2, 4, 5);
    }

    private static void promise36Ties() {
        GongCircle x = new GongCircle();
        Due.tune(x, 'l', 's', 8, 65);
        Due.tune(x, 'l', 's', 8, 25);
        Due.tune(x, 'l', 's', 8, 24);
        Due.tune(x, 'l', 's', 8, 64);
        suite(x, 0, 3);
        Due.tune(x, 'l', 's', 8, 25);
        suite(x, 1, 2, 4);
        Due.tune(x, 'l', 's', 8, 65);
        suite(x, 0, 3, 5);
    }
}
