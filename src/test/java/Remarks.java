import java.nio.file.Files;
import java.nio.file.Path;
import java.util.List;
import java.util.Set;
import java.util.TreeSet;
import java.util.regex.Matcher;
import java.util.regex.Pattern;

/** Each check of the bounds says in a remark which sentence it is, in the document's own words; no promise is left out. */
public final class Remarks extends Checks {
    private static final List<String> FILES = List.of("BoundsOfTerms1", "BoundsOfTerms2", "BoundsOfTape",
            "BoundsOfPromises1To19", "BoundsOfPromises20To32", "Refusals");
    private static final Pattern CHECK = Pattern.compile("(?s)(/\\*\\*((?:(?!\\*/).)*)\\*/\\s*)?private static void (\\w+)\\(\\)");
    private static final Pattern REMARK = Pattern.compile("(Promise (\\d+)|Terms [123]|Terms, answers|What it is): \"(.*)\"");

    private static String plain(String text) {
        return text.replaceAll("\\s+", " ").trim();
    }

    /** The part of the document that a remark names. */
    private static String section(String document, String promise) {
        int from = promise == null ? 0 : document.indexOf("## Promise " + promise + ":");
        int to = document.indexOf("## ", from + 3);
        return promise == null ? document : document.substring(Math.max(from, 0), to < 0 ? document.length() : to);
    }

    public static void main(String[] args) throws Exception {
        String document = plain(Files.readString(Path.of("../shared/DOC.md")));
        Set<Integer> promises = new TreeSet<>();
        for (String file : FILES) {
            String source = Files.readString(Path.of("src/test/java/" + file + ".java"));
            Matcher check = CHECK.matcher(source);
            int checks = 0;
            while (check.find()) {
                checks++;
                where = file + "." + check.group(3);
                String words = check.group(2) == null ? "" : plain(check.group(2).replaceAll("\n\\s*\\* ", " "));
                Matcher remark = REMARK.matcher(words);
                boolean is = remark.matches();
                due("a remark '" + words + "'", is ? 1 : 0, 1);
                if (is) {
                    String part = section(document, remark.group(2));
                    due("in the document: " + remark.group(3), part.contains(remark.group(3)) ? 1 : 0, 1);
                    if (remark.group(2) != null) {
                        promises.add(Integer.parseInt(remark.group(2)));
                    }
                }
            }
            where = file;
            due("it has checks", checks > 0 ? 1 : 0, 1);
        }
        where = "promises with a check of their own";
        due(promises.toString(), promises.size(), 32);
        end("each check says its sentence");
    }
}
