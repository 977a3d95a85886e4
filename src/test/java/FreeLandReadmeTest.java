import java.io.IOException;
import java.nio.file.Files;
import java.nio.file.Path;
import java.util.ArrayList;
import java.util.List;

/** The calls that README.md shows, in their order, each with the answer that it tells behind them. */
public final class FreeLandReadmeTest extends Check {
  /** Lines of the README that show a call of an object and what it answers. */
  private static final List<String> shown = new ArrayList<>();
  private static int seen = 0;

  private static void readShown() throws IOException {
    for (String line : Files.readAllLines(Path.of("README.md"))) {
      if (line.startsWith("land.")) shown.add(line);
    }
  }

  private static void says(String call, long answer) {
    String due = "land." + call + "; // " + answer + ":";
    String line = seen < shown.size() ? shown.get(seen).replaceAll(" +", " ") : "no more calls";
    due("README tells '" + line + "' where '" + due + "' holds", line.startsWith(due) ? 1 : 0, 1);
    seen++;
  }

  private static void readme() {
    Land land = new Land();
    says("person(-8000, 0)", land.person(-8000, 0));
    says("person(-9000, 0)", land.person(-9000, 0));
    says("feed(8, 0x6C69766520333030L)", land.feed(8, 0x6C69766520333030L));
    says("law(100)", land.law(100));
    says("place()", land.place());
    says("sets(0, 1)", land.sets(0, 1));
    says("sets(0, 3)", land.sets(0, 3));
    says("lawOf(99)", land.lawOf(99));
    says("line(150, 0, 0, 9, 0)", land.line(150, 0, 0, 9, 0));
    says("line(160, 1, 0, 9, 400)", land.line(160, 1, 0, 9, 400));
    says("line(170, 2, 0, 9, 12)", land.line(170, 2, 0, 9, 12));
    says("line(600, 5, 0, 9, 0)", land.line(600, 5, 0, 9, 0));
    says("outcome(3, FreeLand.NONE)", land.outcome(3, FreeLand.NONE));
    says("line(120, 0, 1, 9, 0)", land.line(120, 0, 1, 9, 0));
    says("outcome(0, FreeLand.NONE)", land.outcome(0, FreeLand.NONE));
    says("outcome(0, 4)", land.outcome(0, 4));
    says("line(600, 7, 0, 9, 0)", land.line(600, 7, 0, 9, 0));
    says("holds(9, 599, FreeLand.NONE, 0)", land.holds(9, 599, FreeLand.NONE, 0));
    says("holds(9, 600, 4, 1)", land.holds(9, 600, 4, 1));
    says("strike(4, true)", land.strike(4, true));
    says("holds(9, 599, FreeLand.NONE, 0)", land.holds(9, 599, FreeLand.NONE, 0));
    says("holdings(0, FreeLand.NONE)", land.holdings(0, FreeLand.NONE));
    says("corner(2, 1, 230, 100)", land.corner(2, 1, 230, 100));
    says("lose(1, 1)", land.lose(1, 1));
    says("lies(1, 1, 0)", land.lies(1, 1, 0));
    says("area(0)", land.area(0));
    due("how many calls README shows", shown.size(), seen);
  }

  public static void main(String[] args) throws IOException {
    part("README.md");
    readShown();
    readme();
    end("README's calls answer as it tells");
  }
}
