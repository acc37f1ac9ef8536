import java.io.IOException;
import java.nio.file.Files;
import java.nio.file.Path;
import java.util.ArrayList;
import java.util.List;

/** The examples of README.md, line by line, with the answers that it tells beside them. */
public final class ReadmeTest {
    public static void main(String[] args) throws IOException {
        Check.sentence("README: its examples", ReadmeTest::examples);
        linesStandHere();
        Check.end("ReadmeTest");
    }

    private static void examples() {
        LogHouse house = new LogHouse();
        house.byteIn(0, 0x48656C6C, 4);
        house.byteIn(0, 'o', 1);
        house.campaign(0);
        Check.due("PREPARE to all", 7, house.letters());
        while (house.letters() > 0) house.deliver(0);
        Check.due("LEADING", 2, house.state(0, 0));
        int place = house.propose(0);
        Check.due("place", 0, place);
        Check.due("ACCEPT to all", 7, house.letters());
        while (house.letters() > 0) house.deliver(0);
        Check.due("decided", 2, house.decided(0, place));
        int length = house.read(0, place);
        Check.due("length", 5, length);
        int first = house.readByte(0);
        Check.due("first", 72, first);

        int ballot = house.campaign(1);
        Check.due("ballot", 3, ballot);
        Check.due("station of the letter that is lost", 6, house.letter(6, 1));
        house.drop(6);
        int sent = house.resend(1);
        Check.due("sent", 7, sent);
        while (house.letters() > 0) house.deliver(0);
        int identity = house.decided(1, place);
        Check.due("identity", 2, identity);
        house.wipe(6);
        Check.due("bytes of a wiped station", 0, house.station(6, 1));
        int taken = house.catchUp(6, 1);
        Check.due("taken", 1, taken);
    }

    /** Else README.md could go its own way, and this test with it none the wiser. */
    private static void linesStandHere() throws IOException {
        List<String> here = trimmed(Files.readAllLines(Path.of("src/test/java/ReadmeTest.java")));
        int found = 0;
        boolean inExample = false;
        for (String line : trimmed(Files.readAllLines(Path.of("README.md")))) {
            if (line.startsWith("```")) {
                inExample = line.equals("```java");
            } else if (inExample) {
                Check.due("README.md's line stands here: " + line, true, here.contains(line));
                found++;
            }
        }
        Check.due("README.md has examples", true, found > 0);
    }

    private static List<String> trimmed(List<String> lines) {
        List<String> bare = new ArrayList<>();
        for (String line : lines) {
            int comment = line.indexOf(" //");
            bare.add((comment < 0 ? line : line.substring(0, comment)).trim());
        }
        return bare;
    }
}
