import java.io.IOException;
import java.nio.charset.StandardCharsets;
import java.nio.file.Files;
import java.nio.file.Path;
import java.util.ArrayList;
import java.util.Collections;
import java.util.List;
import java.util.Set;
import java.util.TreeSet;
import java.util.concurrent.TimeUnit;
import java.util.regex.Matcher;
import java.util.regex.Pattern;
import java.util.stream.Collectors;
import java.util.stream.Stream;

/** What README.md tells of the use and of the tests: its commands work and print what it says. */
final class ReadmeTest {
  private static final Pattern BLOCK = Pattern.compile("(?ms)^```([a-z]+)\n(.*?)^```$");
  private static final Pattern TABLE_ROW = Pattern.compile("(?m)^\\| (\\w+Test) \\|");
  private static final String RUN_OF_ALL = ".ci/run";

  private record Block(String kind, String text) {
  }

  public static void main(String[] args) throws IOException, InterruptedException {
    String readme = Files.readString(Path.of("README.md"));
    List<Block> blocks = blocksOf(readme);
    calls(blocks);
    Path copy = Files.createTempDirectory("readme");
    try {
      copySources(copy);
      commands(blocks, copy);
    } finally {
      delete(copy);
    }
    tests(readme);
    Due.end();
  }

  private static List<Block> blocksOf(String readme) {
    List<Block> blocks = new ArrayList<>();
    Matcher matcher = BLOCK.matcher(readme);
    while (matcher.find()) {
      blocks.add(new Block(matcher.group(1), matcher.group(2)));
    }
    return blocks;
  }

  /** The calls that are shown are those of the example, whose answers are seen when its command is run. */
  private static void calls(List<Block> blocks) throws IOException {
    String example = Files.readString(Path.of("src/example/java/Example.java"));
    int shown = 0;
    for (Block block : blocks) {
      if (block.kind().equals("java")) {
        shown++;
        String indented = block.text().replaceAll("(?m)^(?=.)", "    ");
        Due.is("Example.java holds the calls shown", example.contains(indented) ? 1 : 0, 1);
      }
    }
    Due.is("blocks of calls", shown, 1);
  }

  private static void commands(List<Block> blocks, Path folder) throws IOException, InterruptedException {
    int run = 0;
    int outputs = 0;
    boolean runsAll = false;
    for (int i = 0; i < blocks.size(); i++) {
      String text = blocks.get(i).text();
      if (!blocks.get(i).kind().equals("sh")) {
        continue;
      }
      if (text.strip().equals(RUN_OF_ALL)) {
        // It is what runs this test: run from here it would not end.
        runsAll = Files.isExecutable(Path.of(RUN_OF_ALL));
        continue;
      }
      run++;
      String printed = printedBy(text, folder);
      if (i + 1 < blocks.size() && blocks.get(i + 1).kind().equals("text")) {
        outputs++;
        Due.areSame("what is printed by\n" + text, printed, blocks.get(i + 1).text());
      }
    }
    Due.is("blocks of commands that were run", run, 2);
    Due.is("those of which README.md says what they print", outputs, 2);
    Due.is(RUN_OF_ALL + " is told and may be run", runsAll ? 1 : 0, 1);
  }

  private static String printedBy(String commands, Path folder) throws IOException, InterruptedException {
    Process process = new ProcessBuilder("sh", "-e", "-c", commands).directory(folder.toFile())
        .redirectError(ProcessBuilder.Redirect.INHERIT).start();
    process.getOutputStream().close();
    String printed = new String(process.getInputStream().readAllBytes(), StandardCharsets.UTF_8);
    boolean ended = process.waitFor(5, TimeUnit.MINUTES);
    Due.is("the end of\n" + commands, ended ? process.exitValue() : -1, 0);
    return printed;
  }

  /** The table of tests has the tests that there are. */
  private static void tests(String readme) throws IOException {
    Set<String> told = new TreeSet<>();
    Matcher matcher = TABLE_ROW.matcher(readme);
    while (matcher.find()) {
      told.add(matcher.group(1));
    }
    try (Stream<Path> files = Files.list(Path.of("src/test/java"))) {
      Set<String> there = files.map(file -> file.getFileName().toString().replace(".java", ""))
          .filter(name -> name.endsWith("Test")).collect(Collectors.toCollection(TreeSet::new));
      Due.areSame("the tests told", told.toString(), there.toString());
    }
  }

  /** The commands make files, which must not lie in the project itself. */
  private static void copySources(Path folder) throws IOException {
    List<Path> sources;
    try (Stream<Path> walk = Files.walk(Path.of("src"))) {
      sources = walk.collect(Collectors.toList());
    }
    for (Path source : sources) {
      Files.copy(source, folder.resolve(source.toString()));
    }
  }

  private static void delete(Path folder) throws IOException {
    List<Path> files;
    try (Stream<Path> walk = Files.walk(folder)) {
      files = walk.collect(Collectors.toList());
    }
    Collections.reverse(files);
    for (Path file : files) {
      Files.delete(file);
    }
  }
}
