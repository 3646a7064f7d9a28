import java.io.IOException;
import java.lang.reflect.Method;
import java.lang.reflect.Modifier;
import java.nio.file.Files;
import java.nio.file.Path;
import java.util.ArrayList;
import java.util.List;
import java.util.Set;
import java.util.TreeSet;
import java.util.regex.Matcher;
import java.util.regex.Pattern;
import java.util.stream.Stream;

/** What README.md tells is so: its program and what that prints, its commands, its lists of calls and tests. */
public final class ReadmeHolds {
  private static final Path TESTS = Path.of("src/test/java");
  private static int wrong = 0;

  private static void told(boolean is, String what) {
    if (!is) {
      wrong++;
      System.out.println(what);
    }
  }

  /** The blocks of a kind in README.md, in their order. */
  private static List<String> blocks(String readme, String kind) {
    List<String> found = new ArrayList<>();
    Matcher matcher = Pattern.compile("(?ms)^```" + kind + "\n(.*?)^```$").matcher(readme);
    while (matcher.find()) found.add(matcher.group(1));
    return found;
  }

  /** What a command prints, in the project's folder, with another folder in place of build. */
  private static String run(String command, Path build) throws IOException, InterruptedException {
    String moved = command.replaceAll("\\bbuild\\b", Matcher.quoteReplacement(build.toString()));
    Process process = new ProcessBuilder("sh", "-e", "-c", moved).redirectErrorStream(true).start();
    process.getOutputStream().close();
    String printed = new String(process.getInputStream().readAllBytes());
    int code = process.waitFor();
    told(code == 0, "exit code " + code + " of:\n" + command + printed);
    return printed;
  }

  private static void programAndCommands(String readme) throws IOException, InterruptedException {
    Path build = Files.createTempDirectory("readme");
    List<String> commands = blocks(readme, "sh");
    told(commands.size() == 4, "commands: " + commands.size());
    Files.writeString(build.resolve("Mine.java"), blocks(readme, "java").get(0));
    for (String command : commands) {
      // To run all the tests from one of them would have no end.
      if (command.contains(".ci/run")) continue;
      String printed = run(command, build);
      if (command.contains("Mine.java")) {
        told(printed.equals(blocks(readme, "text").get(0)), "the program of README.md prints:\n" + printed);
      }
    }
    delete(build);
  }

  private static void delete(Path folder) throws IOException {
    try (Stream<Path> within = Files.list(folder)) {
      for (Path file : (Iterable<Path>) within::iterator) Files.delete(file);
    }
    Files.delete(folder);
  }

  /** What is named between signs of code in the rows of the table under a heading. */
  private static Set<String> tabled(String readme, String heading, String pattern) {
    int start = readme.indexOf("\n" + heading + "\n");
    Set<String> found = new TreeSet<>();
    if (start < 0) return found;
    int end = readme.indexOf("\n#", start + heading.length());
    Matcher row = Pattern.compile("(?m)^\\|.*$").matcher(readme.substring(start, end));
    while (row.find()) {
      Matcher name = Pattern.compile(pattern).matcher(row.group());
      while (name.find()) found.add(name.group(1));
    }
    return found;
  }

  private static void lists(String readme) throws IOException {
    Set<String> calls = new TreeSet<>();
    for (Method method : Genericwood.class.getDeclaredMethods()) {
      if (Modifier.isPublic(method.getModifiers())) calls.add(method.getName());
    }
    Set<String> tests = new TreeSet<>();
    try (Stream<Path> files = Files.list(TESTS)) {
      files.forEach(file -> tests.add(file.getFileName().toString().replace(".java", "")));
    }
    Set<String> named = tabled(readme, "### The calls", "`(\\w+)`");
    told(named.equals(calls), "README.md names these calls: " + named);
    Set<String> listed = tabled(readme, "## How to run its tests", "^\\| `(\\w+)`");
    told(listed.equals(tests), "README.md names these tests: " + listed);
  }

  public static void main(String[] args) throws IOException, InterruptedException {
    String readme = Files.readString(Path.of("README.md"));
    programAndCommands(readme);
    lists(readme);
    System.out.println(wrong == 0 ? "README.md holds" : wrong + " faults");
    if (wrong != 0) System.exit(1);
  }
}
