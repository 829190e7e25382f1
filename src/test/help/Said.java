import java.io.IOException;
import java.nio.file.Files;
import java.nio.file.Path;

// What DOC.md says under one heading, piece by piece: each piece is told with its own test, in the document's order,
// and no word of it may be left out. A test that is wrong is printed with the piece that it belongs to.
final class Said {
    private static final String BETWEEN = " \n.;:,()={}";
    private static int wrong = 0;
    private static int pieces = 0;
    private static String piece = "";

    private final String heading;
    private final String text;
    private int told = 0;

    private Said(String heading, String text) {
        this.heading = heading;
        this.text = text;
    }

    static Said under(String heading) {
        String doc = "\n" + document() + "\n#";
        int from = doc.indexOf("\n" + heading);
        String text = "";
        if (from < 0) {
            wrong("the document has no heading " + heading);
        } else {
            int begin = doc.indexOf('\n', from + 1);
            text = doc.substring(begin, doc.indexOf("\n#", begin));
        }
        return new Said(heading, text.replace("```text", "").replace("```", ""));
    }

    // The promises begin with their call, of which FaceTest knows.
    static Said promise(int number) {
        Said said = under("## Promise " + number + ":");
        int call = said.text.indexOf("`: ");
        said.told = call < 0 ? 0 : call + 3;
        return said;
    }

    // What stands ahead of the next piece, up to a mark, says nothing that a call could break.
    Said goingOnAt(String mark) {
        piece = heading;
        int next = text.indexOf(mark, told);
        if (next < 0) {
            wrong("the document does not go on at " + mark);
        }
        told = Math.max(told, next);
        return this;
    }

    Said says(String words, Runnable test) {
        skipBetween();
        piece = heading + " \"" + words + "\"";
        pieces++;
        if (!text.startsWith(words, told)) {
            wrong("the document says here " + text.substring(told));
        }
        told = Math.min(text.length(), told + words.length());
        try {
            test.run();
        } catch (RuntimeException e) {
            wrong("a call threw " + e);
        }
        return this;
    }

    void andNoMore() {
        skipBetween();
        piece = heading;
        if (told < text.length()) {
            wrong("the document says, too: " + text.substring(told));
        }
    }

    void andNoMoreAheadOf(String mark) {
        skipBetween();
        piece = heading;
        if (!text.startsWith(mark, told)) {
            wrong("the document says, too: " + text.substring(told));
        }
    }

    private void skipBetween() {
        while (told < text.length() && BETWEEN.indexOf(text.charAt(told)) >= 0) {
            told++;
        }
    }

    static void due(String call, long got, long want) {
        if (got != want) {
            wrong(call + " answered " + got + ", due is " + want);
        }
    }

    static void dueAll(String call, int want, int... got) {
        for (int answer : got) {
            due(call, answer, want);
        }
    }

    static void due(String call, String got, String want) {
        if (!got.equals(want)) {
            wrong(call + "\n  answered " + got + "\n  due is   " + want);
        }
    }

    private static void wrong(String what) {
        wrong++;
        System.out.println(piece + ": " + what);
    }

    static void end() {
        System.out.println(wrong == 0 ? pieces + " pieces of the document hold" : wrong + " answers are not as due");
        if (wrong != 0) {
            System.exit(1);
        }
    }

    private static String document() {
        try {
            return Files.readString(Path.of("../shared/DOC.md"));
        } catch (IOException e) {
            wrong("the document cannot be read: " + e);
            return "";
        }
    }
}
