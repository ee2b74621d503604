import java.io.IOException;
import java.nio.file.Files;
import java.nio.file.Path;

/** README.md's examples answer what it says of them, and it names every call of the face and every test. */
public final class ReadmeTest {
    private static final String[] CALLS = {"feed", "end", "yard", "fault", "man", "cell", "row", "rowBy", "done", "period",
        "best", "bestAt", "running", "line", "cost", "more", "moreAt", "relief", "hooks", "hookAt", "fire", "fireAt",
        "out", "aims", "aimAt", "give", "enough", "plan", "night", "sentence", "said", "image", "restore", "count"};

    public static void main(String[] args) throws IOException {
        byHand();
        byTexts();
        names();
        Check.end();
    }

    private static void byHand() {
        PailRow x = new PailRow();
        x.feed(0x6d616e20, 0x61203120, 0x31203920, 0x3b6d616e, 0x20622031);
        x.feed(0x20312039, 0x3b636565, 0, 0, 0);
        Check.due("end(25)", x.end(25), true);
        Check.due("yard()", x.yard(), 2);
        x.feed(0x00010000, 0, 0, 0, 0);
        x.end(2);
        Check.due("row(600)", x.row(600), 360);
        Check.due("rowBy(4)", x.rowBy(4), 45);
    }

    private static void byTexts() {
        PailRow y = new PailRow();
        Check.dueYard(y, "man al 2 3 5;man bo 1 2 9;way 20;pails 3 10;well 4 100;cells 35;cells 79;burn 0 0;wind east;",
                9, 0);
        Check.duePlan(y, "at 0 row al bo;at 1 aim 3;at 5 stop;", 3, 0);
        Check.dueSentence(y, "thrown>45 or not out", 3, 0);
        Check.due("night(0, 0)", y.night(0, 0), 40);
        Check.due("night(0, 3)", y.night(0, 3), 40);
        Check.due("said(NONE)", y.said(PailRow.NONE), 1);
        Check.due("said(0)", y.said(0), 1);
        Check.due("fire(10, 20, 1, 0)", y.fire(10, 20, 1, 0), 11);
        Check.due("out()", y.out(), 6);
    }

    private static void names() throws IOException {
        String readme = Files.readString(Path.of("README.md"));
        for (String call : CALLS) {
            Check.due("README.md names `" + call + "`", readme.contains("`" + call), true);
        }
        try (var files = Files.newDirectoryStream(Path.of("src/test/java"), "*Test.java")) {
            for (Path file : files) {
                String test = file.getFileName().toString().replace(".java", "");
                Check.due("README.md names `" + test + "`", readme.contains("`" + test + "`"), true);
            }
        }
    }
}
