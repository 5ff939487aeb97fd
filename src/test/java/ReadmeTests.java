import java.io.IOException;
import java.nio.file.Files;
import java.nio.file.Path;
import java.util.ArrayList;
import java.util.List;

/** The examples of README.md: each line of them is called here, in their order, and answers what stands behind it. */
public final class ReadmeTests {
    private static final List<String> lines = new ArrayList<>();

    public static void main(String[] args) throws IOException {
        stations();
        words();
        Due.by("README.md");
        Due.is("its examples", String.join("\n", examples()), String.join("\n", lines));
        Due.end("readme");
    }

    private static List<String> examples() throws IOException {
        List<String> found = new ArrayList<>();
        boolean inside = false;
        for (String line : Files.readAllLines(Path.of("README.md"))) {
            if (line.startsWith("```")) {
                inside = line.equals("```java");
            } else if (inside && !line.contains("new Radiohearth()")) {
                found.add(line.replaceAll(" +// ", " // "));
            }
        }
        return found;
    }

    private static void due(String line, Object got, Object want) {
        lines.add(line + " // " + written(want));
        Due.by("README.md");
        Due.is(line, got, want);
    }

    private static String written(Object answer) {
        if (answer instanceof Character) {
            return "'" + answer + "'";
        }
        if (answer instanceof Float) {
            return answer + "f";
        }
        return answer instanceof Long ? answer + "L" : String.valueOf(answer);
    }

    private static void dueWord(String line, int got, int want) {
        lines.add(line + " // 0b" + Integer.toBinaryString(want));
        Due.by("README.md");
        Due.is(line, got, want);
    }

    private static void stations() {
        Radiohearth air = new Radiohearth();
        due("air.addStation(0, 2, 5);", air.addStation(0, 2, 5), 0);
        due("air.addStation(12, 2, 6);", air.addStation(12, 2, 6), 1);
        due("air.addStation(24, 2, 7);", air.addStation(24, 2, 7), 2);
        due("air.setNoise(10);", air.setNoise(10), 0);
        due("air.gain(0, 2);", air.gain(0, 2), 0);
        due("air.hopsByFlood(0, 2);", air.hopsByFlood(0, 2), 2);
        due("air.send(0, 2, 77);", air.send(0, 2, 77), 0);
        due("air.fate(0);", air.fate(0), '-');
        due("air.slot(20);", air.slot(20), 20);
        due("air.fate(0);", air.fate(0), 'a');
        due("air.arrivedIn(0);", air.arrivedIn(0), 11);
        due("air.arrivalAt(2, 0);", air.arrivalAt(2, 0), 77);
        due("air.wayOver(0, 2);", air.wayOver(0, 2), 1);
        due("air.wayHops(0, 2);", air.wayHops(0, 2), 2);
        due("air.share();", air.share(), 1.0f);
        due("air.meanSlots();", air.meanSlots(), 11.0);
    }

    private static void words() {
        Radiohearth word = new Radiohearth();
        due("word.type('1');", word.type('1'), 1);
        due("word.type('0');", word.type('0'), 2);
        due("word.type('1');", word.type('1'), 3);
        due("word.code();", word.code(), 10);
        due("word.setWeight(0, 8);", word.setWeight(0, 8), -8);
        due("word.setWeight(3, -8);", word.setWeight(3, -8), 8);
        dueWord("word.decode();", word.decode(), 0b1101);
        dueWord("word.decodeByTrying();", word.decodeByTrying(), 0b1101);
        due("word.sum();", word.sum(), 48L);
        due("word.isSound();", word.isSound(), true);
    }
}
