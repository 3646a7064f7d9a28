import java.io.IOException;
import java.nio.file.Files;
import java.nio.file.Path;
import java.util.ArrayList;
import java.util.List;

/** The document's first example on one object, call for call and every answer of it. */
public final class FirstExample {
  private static final List<String> told = new ArrayList<>();
  private static int wrong = 0;

  /** A row of the example as the document has it, and what its call answered. */
  private static void row(String row, Object got) {
    told.add(row);
    String want = row.substring(row.indexOf(" = ") + 3);
    if (!want.equals(String.valueOf(got))) {
      wrong++;
      System.out.println("row " + told.size() + ": " + row + ": answered " + got);
    }
  }

  private static void conditions(Genericwood x) {
    row("condition() = 0", x.condition());
    row("condition() = 1", x.condition());
    row("condition() = 2", x.condition());
    row("under(1, 0) = 1", x.under(1, 0));
    row("under(2, 0) = 2", x.under(2, 0));
    row("condition() = 3", x.condition());
    row("under(3, 1) = 4", x.under(3, 1));
    row("isBelow(3, 0) = true", x.isBelow(3, 0));
    row("fit(1, 2) = false", x.fit(1, 2));
    row("lasts() = 12", x.lasts());
    row("cut(0) = 12", x.cut(0));
    row("closure(8) = 10", x.closure(8));
    row("isAntichain(6) = true", x.isAntichain(6));
    row("widest() = 2", x.widest());
    row("isDense(12) = true", x.isDense(12));
    row("isFilter(11) = true", x.isFilter(11));
    row("filters() = 4", x.filters());
    row("isSeparative() = false", x.isSeparative());
    row("filterOf(3) = 11", x.filterOf(3));
  }

  private static void names(Genericwood x) {
    row("name() = 0", x.name());
    row("name() = 1", x.name());
    row("pair(1, 0, 1) = 1", x.pair(1, 0, 1));
    row("rank(1) = 1", x.rank(1));
    row("becomes(1, 2) = 0", x.becomes(1, 2));
    row("valueIn(0, 1) = 8", x.valueIn(0, 1));
    row("forcesIn(0, 0, 1) = false", x.forcesIn(0, 0, 1));
    row("forcesLike(2, 0, 1) = true", x.forcesLike(2, 0, 1));
  }

  private static void formulas(Genericwood x) {
    row("atom('e', 0, 1) = 0", x.atom('e', 0, 1));
    row("not(0) = 1", x.not(0));
    row("both('o', 0, 1) = 2", x.both('o', 0, 1));
    row("value(2) = 12", x.value(2));
    row("forces(0, 2) = true", x.forces(0, 2));
    row("weakly(0, 2) = false", x.weakly(0, 2));
    row("against(0) = 2", x.against(0));
    row("standard(2) = 4", x.standard(2));
    row("valueLike(0, 2) = 12", x.valueLike(0, 2));
    row("mix(1, 1, 3, 2) = 5", x.mix(1, 1, 3, 2));
    row("atom('e', 100, 1) = 3", x.atom('e', 100, 1));
    row("free(3) = 1", x.free(3));
    row("bind('E', 0, 3, 3) = 4", x.bind('E', 0, 3, 3));
    row("holds(4, 3) = true", x.holds(4, 3));
  }

  private static void mapsAndSums(Genericwood x) {
    row("swap(1, 2) = false", x.swap(1, 2));
    row("goes(1) = 2", x.goes(1));
    row("swap(1, 2) = true", x.swap(1, 2));
    row("isFixed(1) = true", x.isFixed(1));
    row("unpair(1) = 0", x.unpair(1));
    row("clear() = 5", x.clear());
    row("checksum() = -7423387059951603197", x.checksum());
    row("lastShare() = 0.5", x.lastShare());
    row("meanRank() = 0.6666666666666666", x.meanRank());
    row("isSound() = true", x.isSound());
  }

  /** The rows of the first example in the document. */
  private static List<String> documented() throws IOException {
    String text = Files.readString(Path.of("../shared/DOC.md"));
    int fence = text.indexOf("```text", text.indexOf("First example:"));
    String example = text.substring(fence + "```text".length(), text.indexOf("```", fence + 1));
    List<String> rows = new ArrayList<>();
    for (String row : example.trim().replaceAll("\\.$", "").split(";")) {
      rows.add(row.trim().replaceAll("\\s+", " "));
    }
    return rows;
  }

  public static void main(String[] args) throws IOException {
    Genericwood x = new Genericwood();
    conditions(x);
    names(x);
    formulas(x);
    mapsAndSums(x);
    if (!told.equals(documented())) {
      wrong++;
      System.out.println("the document's example has other rows: " + documented());
    }
    System.out.println(told.size() + " rows of the first example, " + wrong + " faults");
    if (wrong != 0) System.exit(1);
  }
}
