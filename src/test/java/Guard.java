import java.io.IOException;
import java.util.Arrays;
import java.util.concurrent.TimeUnit;

/** Guard SECONDS COMMAND ..: runs a command, with its exit code; one that does not end in time is ended and fails. */
public final class Guard {
    static final int DID_NOT_END = 124;

    public static void main(String[] args) throws Exception {
        System.exit(run(Integer.parseInt(args[0]), Arrays.copyOfRange(args, 1, args.length)));
    }

    static int run(int seconds, String... command) throws IOException, InterruptedException {
        Process process = new ProcessBuilder(command).inheritIO().start();
        if (process.waitFor(seconds, TimeUnit.SECONDS)) {
            return process.exitValue();
        }
        process.destroyForcibly().waitFor();
        System.out.println("did not end in " + seconds + " seconds");
        return DID_NOT_END;
    }
}
