import java.util.ArrayList;
import java.util.List;
import java.util.regex.Matcher;
import java.util.regex.Pattern;

/** 'The public face', the promises' own signatures, and the headings that the interface has ahead of its calls. */
final class FaceEdges {
    private static final String FACE = "The public face", HEADING = "// ---- ";
    private static final Pattern PUBLIC_CALL = Pattern.compile("public int (\\w+)\\(");

    static void all(Sentences s, String source) {
        String written = source.replaceAll("\\s+", " ");
        opening(s, written);
        declarations(s, written);
        signatures(s, written);
        headings(s, source);
    }

    private static void opening(Sentences s, String written) {
        s.name(FACE, "public final class SandDots {");
        s.isTrue("so it begins", written.contains("public final class SandDots {"));
        s.name(FACE, "public static final int NONE = -1000000, BAD = -1000001, STATE = -1000002, FULL = -1000003;");
        s.due("NONE", SandDots.NONE, -1000000);
        s.due("BAD", SandDots.BAD, -1000001);
        s.due("STATE", SandDots.STATE, -1000002);
        s.due("FULL", SandDots.FULL, -1000003);
        s.name(FACE, "public SandDots();");
        s.isTrue("it takes nothing", written.contains("public SandDots() {"));
    }

    private static void declarations(Sentences s, String written) {
        Matcher calls = Pattern.compile("public int \\w+\\([^)]*\\);").matcher(s.text(FACE));
        List<String> due = new ArrayList<>();
        while (calls.find()) {
            s.name(FACE, calls.group());
            s.isTrue("it is there, by its parameters' names, too", written.contains(begun(calls.group())));
            due.add(calls.group());
        }
        s.due("calls of the face", due.size(), 25);
        s.isTrue("no call beside them, and in this order", names(written).equals(names(String.join(" ", due))));
    }

    private static String begun(String declaration) {
        return declaration.replace(";", " {");
    }

    private static List<String> names(String text) {
        List<String> names = new ArrayList<>();
        Matcher calls = PUBLIC_CALL.matcher(text);
        while (calls.find()) {
            names.add(calls.group(1));
        }
        return names;
    }

    private static void signatures(Sentences s, String written) {
        for (int promise = 1; promise <= 26; promise++) {
            String signature = s.text("Promise " + promise).replaceAll("^`([^`]*)`:.*$", "$1");
            s.promise(promise, "`" + signature + "`:");
            s.isTrue("so it is written", written.contains("public " + signature + " {"));
        }
    }

    private static void headings(Sentences s, String source) {
        Pattern told = Pattern.compile("Ahead of the calls (.*?) the interface says: ---- ([a-z ]+)\\.");
        Matcher headings = told.matcher(s.text("Terms"));
        int found = 0;
        while (headings.find()) {
            s.term(headings.group());
            List<String> due = List.of(headings.group(1).replace("`", "").split(", "));
            List<String> got = names(behind(source, headings.group(2)));
            s.isTrue("calls behind it: " + got, got.equals(due));
            found++;
        }
        s.due("headings", found, 6);
    }

    /** What stands between a heading and the next one. */
    private static String behind(String source, String heading) {
        int from = source.indexOf(HEADING + heading + "\n");
        if (from < 0) {
            return "";
        }
        int to = source.indexOf(HEADING, from + 1);
        return to < 0 ? source.substring(from) : source.substring(from, to);
    }
}
