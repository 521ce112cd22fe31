/** A test that does not end fails .ci/run, and one that ends keeps its exit code. */
public final class GuardTest {
    /** Far above what the guard needs, so that this test ends even if the guard lets the child go on. */
    private static final long CHILD_ENDS_AFTER = 60_000_000_000L;

    public static void main(String[] args) throws Exception {
        if (args.length == 1) {
            child(args[0]);
            return;
        }
        Check c = new Check();
        c.due("one that passes", guarded(60, "0"), 0);
        c.due("one that fails", guarded(60, "1"), 1);
        c.due("one that fails in another way", guarded(60, "3"), 3);
        c.due("one that does not end", guarded(1, "endless"), Guard.DID_NOT_END);
        c.end("GuardTest");
    }

    private static int guarded(int seconds, String how) throws Exception {
        return Guard.run(seconds, "java", "-cp", System.getProperty("java.class.path"), "GuardTest", how);
    }

    private static void child(String how) {
        long start = System.nanoTime();
        while (how.equals("endless") && System.nanoTime() - start < CHILD_ENDS_AFTER) {
            Thread.onSpinWait();
        }
        System.exit(how.equals("endless") ? 0 : Integer.parseInt(how));
    }
}
