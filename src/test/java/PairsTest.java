/** Promises 37 to 42: pairs of keys. */
public final class PairsTest {
    public static void main(String[] args) {
        promise37AddPair();
        promise38Beating();
        promise39File();
        promise40Replace();
        promise41Drift();
        promise41DriftOfAll();
        promise42AreEven();
        Due.end();
    }

    private static void promise37AddPair() {
        GongCircle x = new GongCircle();
        Due.isIllegal("37 low 999", () -> x.addPair(999, 2000));
        Due.isIllegal("37 high 100000", () -> x.addPair(1000, 100000));
        Due.isIllegal("37 high less than low", () -> x.addPair(2000, 1999));
        Due.isIllegal("37 both too high", () -> x.addPair(100000, 100000));
        Due.isOutside("37 none was added", () -> x.beating(0));
        Due.is("37 the least", 0, () -> x.addPair(1000, 1000));
        Due.is("37 the most", 1, () -> x.addPair(99999, 99999));
        for (int i = 2; i < 10; i++) {
            int want = i;
            Due.is("37 up to 10", want, () -> x.addPair(1000, 99999));
        }
        Due.isUntimely("37 there are 10", () -> x.addPair(1000, 1000));
        Due.isIllegal("37 both: out of range first", () -> x.addPair(999, 1000));
        Due.isOutside("37 no eleventh pair", () -> x.beating(10));
    }

    private static void promise38Beating() {
        GongCircle x = new GongCircle();
        x.addPair(1000, 1000);
        x.addPair(1000, 99999);
        Due.is("38 alike", 0, () -> x.beating(0));
        Due.is("38 far apart", 98999, () -> x.beating(1));
        Due.isOutside("38 pair 2", () -> x.beating(2));
        Due.isOutside("38 pair -1", () -> x.beating(-1));
    }

    private static void promise39File() {
        GongCircle x = new GongCircle();
        Due.isOutside("39 no pair, ahead of the range", () -> x.file(0, true, 0));
        x.addPair(1050, 1100);
        Due.isOutside("39 pair -1", () -> x.file(-1, true, 1));
        Due.isIllegal("39 by 0", () -> x.file(0, true, 0));
        Due.isIllegal("39 by 100, ahead of what it would be", () -> x.file(0, true, 100));
        Due.isIllegal("39 by -1", () -> x.file(0, false, -1));
        Due.isUnsupported("39 the high one below the low one", () -> x.file(0, true, 51));
        Due.isUnsupported("39 below 1000", () -> x.file(0, false, 51));
        Due.is("39 nothing was filed", 50, () -> x.beating(0));
        Due.is("39 the high one to the low one", 1050, () -> x.file(0, true, 50));
        Due.is("39 they are alike", 0, () -> x.beating(0));
        Due.is("39 the low one to 1000", 1000, () -> x.file(0, false, 50));
        Due.is("39 they are apart", 50, () -> x.beating(0));
        Due.isUnsupported("39 below 1000 by 1", () -> x.file(0, false, 1));
        Due.is("39 by 1", 1049, () -> x.file(0, true, 1));
    }

    private static void promise40Replace() {
        GongCircle x = new GongCircle();
        Due.isOutside("40 no pair, ahead of the range", () -> x.replace(0, true, 0));
        x.addPair(2000, 3000);
        Due.isOutside("40 pair -1", () -> x.replace(-1, true, 2500));
        Due.isIllegal("40 key 999", () -> x.replace(0, false, 999));
        Due.isIllegal("40 key 100000", () -> x.replace(0, true, 100000));
        Due.isUnsupported("40 the high one below the low one", () -> x.replace(0, true, 1999));
        Due.isUnsupported("40 the low one above the high one", () -> x.replace(0, false, 3001));
        Due.is("40 nothing was replaced", 1000, () -> x.beating(0));
        Due.is("40 the low one by the high one", 2000, () -> x.replace(0, false, 3000));
        Due.is("40 they are alike", 0, () -> x.beating(0));
        Due.is("40 the high one", 3000, () -> x.replace(0, true, 99999));
        Due.is("40 the low one", 3000, () -> x.replace(0, false, 1000));
        Due.is("40 far apart", 98999, () -> x.beating(0));
    }

    private static void promise41Drift() {
        GongCircle x = new GongCircle();
        Due.isIllegal("41 no days", () -> x.drift(0));
        Due.isIllegal("41 61 days", () -> x.drift(61));
        Due.isIllegal("41 -1 days", () -> x.drift(-1));
        Due.is("41 without pairs", 1, () -> x.drift(1));
        x.addPair(2000, 2000);
        x.addPair(2000, 2000);
        Due.is("41 day 2", 2, () -> x.drift(1));
        Due.is("41 pair 0 by 2", 1, () -> x.beating(0));
        Due.is("41 pair 1 not yet", 0, () -> x.beating(1));
        Due.is("41 day 3", 3, () -> x.drift(1));
        Due.is("41 pair 0 not again", 1, () -> x.beating(0));
        Due.is("41 pair 1 by 3", 1, () -> x.beating(1));
        Due.is("41 day 63", 63, () -> x.drift(60));
        Due.is("41 pair 0, 31 days", 31, () -> x.beating(0));
        Due.is("41 pair 1, 21 days", 21, () -> x.beating(1));
        Due.is("41 the low key sinks", 1969, () -> x.replace(0, false, 1000));
        Due.is("41 the high one does not", 2000, () -> x.replace(0, true, 1000));
        Due.is("41 day 65", 65, () -> x.drift(2));
        Due.is("41 a key stays at 1000", 0, () -> x.beating(0));
        x.addPair(1001, 1001);
        x.drift(60);
        Due.is("41 down to 1000", 1, () -> x.beating(2));
    }

    private static void promise41DriftOfAll() {
        GongCircle x = new GongCircle();
        for (int i = 0; i < 10; i++) {
            x.addPair(5000, 5000);
        }
        x.drift(60);
        for (int i = 0; i < 10; i++) {
            int pair = i;
            Due.is("41 60 days of pair " + pair, 60 / (pair + 2), () -> x.beating(pair));
        }
        x.drift(50);
        for (int i = 0; i < 10; i++) {
            int pair = i;
            Due.is("41 110 days of pair " + pair, 110 / (pair + 2), () -> x.beating(pair));
        }
    }

    private static void promise42AreEven() {
        GongCircle x = new GongCircle();
        Due.is("42 no pairs", true, () -> x.areEven(5, 0));
        x.addPair(1000, 1010);
        Due.is("42 as told", true, () -> x.areEven(10, 0));
        Due.is("42 not as told", false, () -> x.areEven(9, 0));
        x.addPair(1000, 1016);
        Due.is("42 within 3", true, () -> x.areEven(13, 3));
        Due.is("42 not within 2", false, () -> x.areEven(13, 2));
        Due.is("42 one above", false, () -> x.areEven(10, 5));
        Due.is("42 one below", false, () -> x.areEven(16, 5));
        x.addPair(1000, 99999);
        Due.is("42 the last one is apart", false, () -> x.areEven(9999, 999));
        Due.isIllegal("42 count -1", () -> x.areEven(-1, 0));
        Due.isIllegal("42 count 10000", () -> x.areEven(10000, 0));
        Due.isIllegal("42 within -1", () -> x.areEven(0, -1));
        Due.isIllegal("42 within 1000", () -> x.areEven(0, 1000));
    }
}
