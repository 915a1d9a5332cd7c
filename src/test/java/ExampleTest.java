import java.nio.file.Files;
import java.nio.file.Path;

/** What README.md tells of the class: each of its rows "text -> what it shows" holds. */
public final class ExampleTest {
    public static void main(String[] args) throws Exception {
        int rows = 0;
        for (String line : Files.readAllLines(Path.of("README.md"))) {
            int arrow = line.indexOf("  ->  ");
            if (arrow < 0) continue;
            rows++;
            House x = new House();
            House.due(line, x.run(line.substring(0, arrow)), 0);
            House.due(line, x.shown().replace('\n', '|'), line.substring(arrow + 6));
        }
        House.due("rows of README.md", rows, 7);
        House x = new House();
        House.due("README.md's first text", x.run("x := 2 3 rho iota 6 ; +/x"), 0);
        House.due("README.md's first text", x.shown(), "6 15\n");
        House.end();
    }
}
