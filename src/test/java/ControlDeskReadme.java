import java.io.IOException;
import java.nio.charset.StandardCharsets;
import java.nio.file.Files;
import java.nio.file.Path;

/** The example of README.md answers what README.md says beside it, and README.md tells every call of the face. */
public final class ControlDeskReadme {
    private static int wrong = 0;

    private static void due(String what, long got, long want) {
        if (got != want) {
            wrong++;
            System.out.println(what + " answered " + got + ", due is " + want);
        }
    }

    private static void example() {
        ControlDesk desk = new ControlDesk(0);
        due("mode()", desk.mode(), 3);
        due("access(773, ..)", desk.access(773, 1, true, 0x1000), ControlDesk.DONE);
        due("access(772, ..)", desk.access(772, 1, true, 128), ControlDesk.DONE);
        due("access(768, ..)", desk.access(768, 2, true, 8), ControlDesk.DONE);
        long before = desk.had();
        due("had()", before, 1L << 33 | 1L << 35);
        desk.line(7, true);
        int interrupt = desk.taken();
        due("taken()", interrupt, 7);
        long next = desk.trap(true, interrupt, 0, 0x8000);
        due("trap(true, 7, 0, 0x8000)", next, 0x1000);
        due("back(true)", desk.back(true) ? 1 : 0, 1);
        long resumed = desk.place();
        due("place()", resumed, 0x8000);
    }

    private static void told(String text, String words) {
        if (!text.contains(words)) {
            wrong++;
            System.out.println("README.md does not say: " + words);
        }
    }

    private static void words(String text) {
        String[] lines = {
            "new ControlDesk(0);", "desk.access(773, 1, true, 0x1000);", "desk.access(772, 1, true, 128);",
            "desk.access(768, 2, true, 8);", "long before = desk.had();", "desk.line(7, true);",
            "int interrupt = desk.taken();", "long next = desk.trap(true, interrupt, 0, 0x8000);",
            "desk.back(true);", "long resumed = desk.place();"};
        for (String line : lines) {
            told(text, line);
        }
        String[] calls = {
            "new ControlDesk(number)", "mode()", "dataMode()", "access(number, operation, writes, operand)", "had()",
            "peek(number)", "trap(interrupt, cause, value, place)", "back(machine)", "place()", "taken()", "wakes()",
            "line(interrupt, on)", "allowed(what)", "floats()", "dirty()", "count(cycles, instructions)", "time(t)"};
        for (String call : calls) {
            told(text, "| `" + call + "` |");
        }
        for (String constant : new String[] {"NONE", "DONE", "ELSEWHERE", "ILLEGAL", "WAIT", "FENCE"}) {
            told(text, "`" + constant + "`");
        }
        told(text, ".ci/run");
    }

    public static void main(String[] args) throws IOException {
        example();
        words(new String(Files.readAllBytes(Path.of("README.md")), StandardCharsets.UTF_8));
        System.out.println(wrong == 0 ? "README.md is as due" : wrong + " things of README.md are not as due");
        if (wrong != 0) {
            System.exit(1);
        }
    }
}
