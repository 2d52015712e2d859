import java.io.IOException;
import java.nio.file.Files;
import java.nio.file.Path;

/**
 * Writes the program and the model with hashes of few bits, so that unlike definitions have the same hash
 * all the time; RandomRunsTest then compares them with one another.
 */
final class Narrow {
    private static final String OF_PROGRAM = "(isAnew ? ANEW : HASH), hash);";
    private static final String OF_MODEL = "        return fold(row);";

    private static void write(Path from, Path to, String text, String narrowed) throws IOException {
        String all = Files.readString(from);
        if (all.split(java.util.regex.Pattern.quote(text), -1).length != 2) {
            System.out.println(from + " has not just one " + text);
            System.exit(1);
        }
        Files.writeString(to.resolve(from.getFileName()), all.replace(text, narrowed));
    }

    /** Arguments: how many bits, the program, the model, and the directory to write to. */
    public static void main(String[] args) throws IOException {
        String bits = " * 0x9E3779B97F4A7C15L >>> 64 - " + Integer.parseInt(args[0]);
        Path to = Path.of(args[3]);
        write(Path.of(args[1]), to, OF_PROGRAM, OF_PROGRAM.replace("hash);", "hash" + bits + ");"));
        write(Path.of(args[2]), to, OF_MODEL, OF_MODEL.replace(";", bits + ";"));
    }
}
