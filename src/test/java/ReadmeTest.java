import java.nio.charset.StandardCharsets;
import java.nio.file.Files;
import java.nio.file.Path;
import java.util.regex.Matcher;
import java.util.regex.Pattern;

/** What README.md says of use: each line of its example answers as told there, and every call is named. */
public final class ReadmeTest {
    private static final Pattern LINE = Pattern.compile("x\\.(\\w+)\\((.*)\\); +// (-?\\d+)(:.*)?");

    public static void main(String[] args) throws Exception {
        String text = Files.readString(Path.of("README.md"), StandardCharsets.UTF_8);
        example(text.substring(text.indexOf("```java") + 7, text.indexOf("```", text.indexOf("```java") + 7)));
        for (String call : Calls.NAMES) {
            Due.due(Calls.promiseOf(call), "README.md names " + call, text.contains("`" + call + "`") ? 1 : 0, 1);
        }
        Due.end();
    }

    private static void example(String code) {
        Calls x = new Calls();
        int asked = 0;
        for (String line : code.strip().split("\n")) {
            Matcher m = LINE.matcher(line);
            if (m.matches()) {
                int[] v = values(m.group(2));
                x.due(m.group(1), Integer.parseInt(m.group(3)), v);
                texts(x, m.group(1), v, line);
                asked++;
            } else {
                boolean other = line.isEmpty() || line.startsWith("//") || line.contains("new AddedLetters()");
                Due.due(1, "README.md: a line without an answer: " + line, other ? 1 : 0, 1);
            }
        }
        Due.due(1, "README.md has an example of some length", asked > 20 ? 1 : 0, 1);
    }

    /** A line that asks how long a text is tells the text itself, in quotes. */
    private static void texts(Calls x, String call, int[] v, String line) {
        if (!call.equals("text") && !call.equals("rows") || v[v.length - 1] != -1) {
            return;
        }
        String[] told = line.split("\"");
        StringBuilder got = new StringBuilder();
        int[] at = v.clone();
        for (int i = 0; i < x.ask(call, v); i++) {
            at[at.length - 1] = i;
            got.append((char) x.ask(call, at));
        }
        boolean same = told.length > 1 && told[1].equals(got.toString());
        Due.due(Calls.promiseOf(call), line + " tells the text '" + got + "'", same ? 1 : 0, 1);
    }

    /** Numbers, or a sign between '. */
    private static int[] values(String told) {
        if (told.isEmpty()) {
            return new int[0];
        }
        String[] parts = told.split(", ");
        int[] values = new int[parts.length];
        for (int k = 0; k < parts.length; k++) {
            values[k] = parts[k].startsWith("'") ? parts[k].charAt(1) : Integer.parseInt(parts[k]);
        }
        return values;
    }
}
