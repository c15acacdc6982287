import java.io.IOException;
import java.nio.file.Files;
import java.nio.file.Path;

/** README.md's example: its calls stand there just so, and answer what it says. */
public final class ReadmeTest {
    private static final Check CHECK = new Check();

    public static void main(String[] args) throws IOException {
        String text = Files.readString(Path.of("README.md"));
        ApartCost x = new ApartCost();
        due(text, "ApartCost x = new ApartCost();\nint lid = x.act(0, 0, 0, 100); ", x.act(0, 0, 0, 100), 0);
        due(text, "int motor = x.act(1, 1, 0, 50);", x.act(1, 1, 0, 50), 1);
        due(text, "x.before(lid, motor); ", told(x.before(0, 1)), 1);
        due(text, "x.change(0, 1, 25); ", told(x.change(0, 1, 25)), 1);
        due(text, "x.worth(1, 500);", told(x.worth(1, 500)), 1);
        due(text, "x.sure(1, 1, 2); ", told(x.sure(1, 1, 2)), 1);
        due(text, "x.run(x.states());               // 2 acts", x.run(x.states()), 2);
        due(text, "x.step(0);                       // the first of them: 0", x.step(0), 0);
        due(text, "x.gain(ApartCost.NONE);          // the row's gain, in 27720ths of a cent: 75 * 27720",
            x.gain(ApartCost.NONE), 75 * 27720);
        due(text, "x.test(1, 30);                   // 1:", x.test(1, 30), 1);
        due(text, "x.stations(2);                   // 100:", x.stations(2), 100);
        due(text, "x.station(motor);                // 1\n", x.station(1), 1);
        CHECK.end();
    }

    private static void due(String text, String line, long got, long want) {
        CHECK.due(line, got, want);
        CHECK.due("README.md has: " + line, text.contains(line), true);
    }

    private static long told(boolean answer) {
        return answer ? 1 : 0;
    }
}
