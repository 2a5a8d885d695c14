/** .ci/run takes a copy of the project that stands, and refuses copies in which something does not. */
public final class RunTest {
    private static final String FAILS = """
            public final class FailsTest {
                public static void main(String[] args) {
                    System.out.println("failed here");
                    System.exit(1);
                }
            }
            """;

    public static void main(String[] args) {
        ends("as it is", 0, "== FiguresTest", copy -> { });
        ends("started from another place", 0, "== FiguresTest", "cd src/test && ../../.ci/run", copy -> { });
        ends("a test of the project fails", 1, "failed here",
                copy -> copy.put("src/test/java/FailsTest.java", FAILS));
        ends("a shared test fails", 1, "failed here",
                copy -> copy.put("../shared/tests/FailsTest.java", FAILS));
        ends("a shared test does not compile", 1, "Broken",
                copy -> copy.put("../shared/tests/Broken.java", "public final class Broken {"));
        ends("no shared tests", 1, "there are no tests under ../shared/tests",
                copy -> Copy.sharedTests().forEach(copy::drop));
        ends("no class", 1, "GongCircle.java", copy -> copy.drop("src/main/java/GongCircle.java"));
        Due.end();
    }

    private interface Change {
        void of(Copy copy);
    }

    private static void ends(String what, int code, String printed, Change change) {
        ends(what, code, printed, ".ci/run", change);
    }

    private static void ends(String what, int code, String printed, String command, Change change) {
        Copy copy = new Copy("FiguresTest");
        change.of(copy);
        Copy.Ended ended = copy.run(command);
        Due.is(what + ": .ci/run ends with", code, ended::code);
        Due.is(what + ": it prints \"" + printed + "\"", true, () -> ended.printed().contains(printed));
        copy.remove();
    }
}
