import java.io.IOException;
import java.nio.file.Files;
import java.nio.file.Path;
import java.util.List;

/** The examples of README.md, line by line, with the answers that their comments tell. */
public final class ReadmeTest {
    public static void main(String[] args) throws IOException {
        Check c = new Check("ReadmeTest");
        fetchedAndHit(c);
        lostAndDown(c);
        isThisFile(c);
        c.end();
    }

    private static void fetchedAndHit(Check c) {
        FrontCache front = new FrontCache(12);            // room for sizes of 12 together
        for (char letter : "max-age=5".toCharArray()) {
            front.type(letter);                           // the draft of a control
        }
        front.publish(1, 4, false);                       // a resource of size 4 at path 1, with that control
        int request = front.get(1, 0, 0);                 // nothing is stored: it is passed on
        front.deliver(0);                                 // the request comes to the origin
        front.deliver(0);                                 // its answer comes to the front
        int status = front.answer(request, 0);            // 200
        int way = front.answer(request, 3);               // 2, fetched
        int again = front.answer(front.get(1, 0, 0), 3);  // 1, a hit: the entry is fresh for 5 ticks
        c.due("status", status, 200);
        c.due("way", way, 2);
        c.due("again", again, 1);
    }

    private static void lostAndDown(Check c) {
        FrontCache front = new FrontCache(12);
        int origin = front.owner(1);                      // 0
        front.power(origin, false);                       // it takes no message in from now on
        int first = front.put(1, 3);
        int second = front.delete(1);                     // it waits behind the first
        int third = front.get(1, 0, 0);
        for (int i = 0; i < 24; i++) {
            front.tick();                                 // each is sent three times, and given up after 12 ticks
        }
        int givenUp = front.answer(second, 0);            // 504, as is that to the first
        int notSent = front.answer(third, 0);             // 502: two were given up, so the origin is DOWN
        int waiting = front.waiting(origin);              // -1: DOWN
        while (front.flights() > 0) {
            front.lose(0);
        }
        front.power(origin, true);
        for (int i = 0; i < 10; i++) {
            front.tick();                                 // a probe is sent 10 ticks after the mark
        }
        front.deliver(0);
        front.deliver(0);                                 // its answer comes: DOWN no more
        int waitingNow = front.waiting(origin);           // 0
        c.due("origin", origin, 0);
        c.due("first", front.answer(first, 0), 504);
        c.due("givenUp", givenUp, 504);
        c.due("notSent", notSent, 502);
        c.due("waiting", waiting, -1);
        c.due("waitingNow", waitingNow, 0);
    }

    /** Every line of Java in README.md stands here too, so that what is shown there has been run. */
    private static void isThisFile(Check c) throws IOException {
        List<String> here = Files.readAllLines(Path.of("src/test/java/ReadmeTest.java"));
        here.replaceAll(String::strip);
        boolean inJava = false;
        int examples = 0;
        for (String line : Files.readAllLines(Path.of("README.md"))) {
            if (line.startsWith("```")) {
                inJava = line.equals("```java");
                examples += inJava ? 1 : 0;
            } else if (inJava) {
                c.due("a test of \"" + line + "\"", here.contains(line.strip()), true);
            }
        }
        c.due("examples", examples, 2);
    }
}
