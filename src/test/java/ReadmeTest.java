import java.io.IOException;
import java.nio.file.Files;
import java.nio.file.Path;

/** The examples of README.md: each of their lines stands here too, and does what is said behind it. */
final class ReadmeTest {
    private static final Check CHECK = new Check("ReadmeTest");

    public static void main(String[] args) throws IOException {
        CHECK.about("the examples");
        examples();
        examplesAreTheseLines();
        CHECK.end();
    }

    private static void examples() {
        GuardedTree x = new GuardedTree();
        x.connect(77);
        CHECK.due("way(0)", x.way(0), 32);
        x.move(0, 9999);
        CHECK.due("way(1)", x.way(1), 96);
        x.move(1, 9999);
        CHECK.due("client()", x.client(), 2);
        CHECK.due("server()", x.server(), 2);
        int made = x.ask(2, 0, 1, 1, 0);
        x.move(0, 9999);
        x.move(1, 9999);
        int file = x.status(made);
        CHECK.due("file", file, 1);
        writeAndRead(x, file);
        losePower(x, file);
        alterAByte(x);
    }

    private static void writeAndRead(GuardedTree x, int file) {
        x.put(0x68656c6c);
        x.put(0x6f000000);
        int wrote = x.ask(4, file, 0, 5, 0);
        int read = x.ask(3, file, 0, 64, 0);
        x.move(0, 9999);
        x.move(1, 9999);
        int count = x.status(read);
        int first = x.data(read, 0);
        CHECK.due("status(wrote)", x.status(wrote), 5);
        CHECK.due("count", count, 5);
        CHECK.due("first", first, 104);
        CHECK.due("the last", x.data(read, 4), 111);
    }

    private static void losePower(GuardedTree x, int file) {
        x.cut(0, 0);
        int gone = x.ask(6, file, 0, 0, 0);
        x.move(0, 9999);
        int server = x.server();
        CHECK.due("server", server, GuardedTree.NO_POWER);
        CHECK.due("status(gone)", x.status(gone), GuardedTree.PENDING);
        int kept = x.start();
        CHECK.due("kept", kept, 2);
        x.connect(78);
        CHECK.due("status(gone)", x.status(gone), GuardedTree.LOST);
        x.move(0, 9999);
        x.move(1, 9999);
        int size = x.ask(8, file, 1, 0, 0);
        x.move(0, 9999);
        x.move(1, 9999);
        CHECK.due("the file's size", x.status(size), 5);
        x.connect(78);
    }

    private static void alterAByte(GuardedTree x) {
        x.alter(0, 31, 1);
        x.move(0, 9999);
        x.move(1, 9999);
        int client = x.client();
        CHECK.due("client", client, -3);
    }

    /** A line of README.md that this file does not have would be one that no test has run. */
    private static void examplesAreTheseLines() throws IOException {
        String here = Files.readString(Path.of("src/test/java/ReadmeTest.java"));
        boolean inside = false;
        int seen = 0;
        for (String line : Files.readAllLines(Path.of("README.md"))) {
            if (line.startsWith("```")) {
                inside = line.equals("```java");
            } else if (inside) {
                seen++;
                String call = line.split("//")[0].trim();
                CHECK.due("this test has the line " + call, here.contains("        " + call + "\n"), true);
            }
        }
        CHECK.due("there are lines", seen > 0, true);
    }
}
