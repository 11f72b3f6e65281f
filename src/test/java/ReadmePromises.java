import java.nio.charset.StandardCharsets;
import java.nio.file.Files;
import java.nio.file.Path;
import java.util.regex.Matcher;
import java.util.regex.Pattern;

/** The calls of README.md: each has the answer that stands behind it there. */
final class ReadmePromises {
    private static final String MADE = "HuntersIntroduced x = new HuntersIntroduced();";
    private static final Pattern CALL = Pattern.compile("x\\.(\\w+)\\((.*)\\); +// (-?\\d+)(:.*)?");
    private static final int BLOCKS = 3;

    private ReadmePromises() {
    }

    static void run(Path readme) throws Exception {
        int blocks = 0;
        boolean isCode = false;
        Called x = null;
        for (String line : Files.readAllLines(readme, StandardCharsets.UTF_8)) {
            if (line.startsWith("```")) {
                isCode = !isCode;
            } else if (isCode && line.equals(MADE)) {
                x = Called.of(new HuntersIntroduced());
                blocks++;
            } else if (isCode) {
                one(x, line);
            }
        }
        Check.due("readme: blocks of calls", blocks, BLOCKS);
    }

    private static void one(Called x, String line) {
        Matcher m = CALL.matcher(line);
        boolean isCall = x != null && m.matches();
        Check.so("readme: can't be read: " + line, isCall);
        if (isCall) {
            Check.due("readme: " + line, x.call(m.group(1), numbers(m.group(2))), Long.parseLong(m.group(3)));
        }
    }

    private static int[] numbers(String told) {
        if (told.isEmpty()) {
            return new int[0];
        }
        String[] words = told.split(", ");
        int[] numbers = new int[words.length];
        for (int i = 0; i < words.length; i++) {
            boolean isSign = words[i].startsWith("'");
            numbers[i] = isSign ? words[i].charAt(1) : Integer.parseInt(words[i]);
        }
        return numbers;
    }
}
