import java.nio.file.Files;
import java.nio.file.Path;
import java.util.ArrayList;
import java.util.List;

/** The examples of README.md answer what stands beside them there. */
public final class ReadmeTest {
    private final Check check = new Check();
    private final List<String> lines = new ArrayList<>();
    private int next = 0;

    public static void main(String[] args) throws Exception {
        ReadmeTest test = new ReadmeTest();
        test.readExamples();
        test.followExamples();
        test.check.due("lines of the examples that were followed", test.next, test.lines.size());
        test.check.end();
    }

    private void readExamples() throws Exception {
        boolean inside = false;
        for (String line : Files.readAllLines(Path.of("README.md"))) {
            if (line.startsWith("```")) {
                inside = line.equals("```java");
            } else if (inside) {
                lines.add(line);
            }
        }
    }

    private void followExamples() {
        FrameTalk talk = new FrameTalk();
        made("FrameTalk talk = new FrameTalk();");
        int six = talk.lit(6);
        made("int six = talk.lit(6);");
        int box = talk.node(5, six, 0, 0);
        made("int box = talk.node(5, six, 0, 0);");
        int product = talk.node(10, box, 4, talk.lit(7));
        made("int product = talk.node(10, box, 4, talk.lit(7));");
        answered("talk.run(product, 100);", talk.run(product, 100));
        answered("talk.value(-1);", talk.value(-1));
        answered("talk.steps();", talk.steps());

        int bad = talk.node(1, 256, 0, 0);
        made("int bad = talk.node(1, 256, 0, 0);");
        answered("talk.run(bad, 100);", talk.run(bad, 100));
        answered("talk.fault();", talk.fault());
        answered("talk.faultNode();", talk.faultNode());
        int taken = talk.node(15, bad, 2, six);
        made("int taken = talk.node(15, bad, 2, six);");
        answered("talk.run(taken, 100);", talk.run(taken, 100));
        answered("talk.value(-1);", talk.value(-1));
        answered("talk.value(0);", talk.value(0));
    }

    /** Reads the next line of the examples, which is to have this call ahead of its remark. */
    private String made(String call) {
        String[] halves = next < lines.size() ? lines.get(next).split("//") : new String[] {""};
        next++;
        check.due("'" + call + "' stands as '" + halves[0].trim() + "'", halves[0].trim().equals(call) ? 1 : 0, 1);
        return halves.length > 1 ? halves[1].trim() : "";
    }

    /** Likewise; the remark is to begin with the answer. */
    private void answered(String call, long got) {
        String remark = made(call);
        boolean told = remark.matches("(?s)" + got + "(\\D.*)?");
        check.due("'" + call + "' answered " + got + ", README.md says '" + remark + "'", told ? 1 : 0, 1);
    }
}
