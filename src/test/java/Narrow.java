import java.io.IOException;
import java.nio.file.Files;
import java.nio.file.Path;
import java.util.regex.Pattern;

/**
 * Writes the program and the model with other bounds: hashes of few bits, so that unlike definitions have
 * the same hash all the time; parts of few numbers, so that each row has many of them; few parts, so that
 * there is soon no room any more.
 */
final class Narrow {
    private static final String HASH_OF_PROGRAM = "void setHash(int definition, long hash, boolean isAnew) {";
    private static final String HASH_OF_MODEL = "        return fold(row);";
    private static final String PART_BITS = "PART_BITS = 11;";
    private static final String MOST_PARTS = "MOST_PARTS = 3300;";

    private static String narrowed(String all, String text, String narrow) {
        if (all.split(Pattern.quote(text), -1).length != 2) {
            System.out.println("there is not just one " + text);
            System.exit(1);
        }
        return all.replace(text, narrow);
    }

    /** Arguments: bits of a hash, bits of a part, how many parts, the program, the model, where to write to. */
    public static void main(String[] args) throws IOException {
        int bits = Integer.parseInt(args[0]);
        int partBits = Integer.parseInt(args[1]);
        int parts = Integer.parseInt(args[2]);
        Path program = Path.of(args[3]);
        Path model = Path.of(args[4]);
        Path to = Path.of(args[5]);
        String few = " * 0x9E3779B97F4A7C15L >>> 64 - " + bits;

        String all = Files.readString(program);
        all = narrowed(all, PART_BITS, "PART_BITS = " + partBits + ";");
        all = narrowed(all, MOST_PARTS, "MOST_PARTS = " + parts + ";");
        String wide = HASH_OF_PROGRAM.replace("hash,", "wide,") + " long hash = wide" + few + ";";
        Files.writeString(to.resolve(program.getFileName()), narrowed(all, HASH_OF_PROGRAM, wide));
        String plain = Files.readString(model);
        Files.writeString(to.resolve(model.getFileName()),
            narrowed(plain, HASH_OF_MODEL, HASH_OF_MODEL.replace(";", few + ";")));
    }
}
