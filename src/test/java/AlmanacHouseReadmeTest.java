import java.io.IOException;
import java.lang.reflect.Method;
import java.lang.reflect.Modifier;
import java.nio.file.Files;
import java.nio.file.Path;
import java.util.ArrayList;
import java.util.Collections;
import java.util.List;
import java.util.regex.Matcher;
import java.util.regex.Pattern;

/** README.md tells the calls that there are, what they throw, and in its example what they answer. */
public final class AlmanacHouseReadmeTest extends Cases {
  private static final Pattern ROW = Pattern.compile("\\| `(.*?)` \\|.*\\| (.*?) \\|");
  private static final Pattern EXCEPTION = Pattern.compile("IllegalArgument|IndexOutOfBounds|IllegalState");
  private static final Pattern EXAMPLE = Pattern.compile("int (\\w+) = house\\..*; +// (-?\\d+).*");

  public static void main(String[] args) throws IOException {
    List<String> lines = Files.readAllLines(Path.of("README.md"));
    test("readme: its tables tell the public face", unused -> dueLines(face(), calls(lines)));
    test("readme: its example tells what the calls answer", x -> dueLines(answers(x), toldAnswers(lines)));
    end();
  }

  private static List<String> face() {
    List<String> face = new ArrayList<>();
    for (Method m : AlmanacHouse.class.getDeclaredMethods()) {
      if (Modifier.isPublic(m.getModifiers())) {
        face.add(Faces.told(m));
      }
    }
    Collections.sort(face);
    return face;
  }

  private static List<String> calls(List<String> lines) {
    List<String> calls = new ArrayList<>();
    for (String line : lines) {
      Matcher row = ROW.matcher(line);
      if (row.matches()) {
        calls.add(withoutNames(row.group(1)) + exceptions(row.group(2)));
      }
    }
    Collections.sort(calls);
    return calls;
  }

  private static String withoutNames(String call) {
    return call.replaceAll(" \\w+([,)])", "$1").replace(", ", ",");
  }

  private static String exceptions(String column) {
    StringBuilder told = new StringBuilder();
    Matcher name = EXCEPTION.matcher(column);
    while (name.find()) {
      told.append(' ').append(name.group()).append("Exception");
    }
    return told.toString();
  }

  /** The example of README.md, line by line. */
  private static List<String> answers(AlmanacHouse house) {
    int feast = house.addFeast(2, 20, 1, 6, 0);
    int day = house.feast(feast, 1);
    int month = house.date(day, 1);
    int sheet = house.print(1);
    int late = house.observe(61, false);
    int length = house.count(2);
    int wrong = house.sheet(sheet, 3);
    int changed = house.reprint(sheet);
    int now = house.printed(sheet, 0);
    return List.of("feast " + feast, "day " + day, "month " + month, "sheet " + sheet, "late " + late,
        "length " + length, "wrong " + wrong, "changed " + changed, "now " + now);
  }

  private static List<String> toldAnswers(List<String> lines) {
    List<String> told = new ArrayList<>();
    for (String line : lines) {
      Matcher example = EXAMPLE.matcher(line);
      if (example.matches()) {
        told.add(example.group(1) + " " + example.group(2));
      }
    }
    return told;
  }
}
