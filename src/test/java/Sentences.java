import java.io.IOException;
import java.nio.file.Files;
import java.nio.file.Path;
import java.util.ArrayList;
import java.util.List;
import java.util.Set;

/** The document's sentences by section, so that each can be asked for a test that quotes it. */
final class Sentences {
  private static final Set<String> LEFT_OUT = Set.of("The public face", "Not promised");

  private final List<String[]> found = new ArrayList<>();

  Sentences(Path document) throws IOException {
    String section = "The public face";
    for (String line : Files.readAllLines(document)) {
      String text = line.replace("`", "").strip();
      if (text.startsWith("## ")) {
        section = text.substring(3);
      } else if (!text.isEmpty() && !text.startsWith("#") && !LEFT_OUT.contains(section)) {
        add(section, text);
      }
    }
  }

  private void add(String section, String line) {
    for (String sentence : line.split("(?<=[.;]) (?=\\S)")) {
      found.add(new String[] {section, sentence});
    }
  }

  boolean has(String section, String words) {
    return found.stream().anyMatch(one -> isQuoted(one, section, words));
  }

  /** The sentences that none of the quotes holds to. */
  List<String> without(List<String[]> quotes) {
    List<String> left = new ArrayList<>();
    for (String[] one : found) {
      if (quotes.stream().noneMatch(quote -> isQuoted(one, quote[0], quote[1]))) {
        left.add(one[0] + ": " + one[1]);
      }
    }
    return left;
  }

  private static boolean isQuoted(String[] one, String section, String words) {
    return isSection(one[0], section) && one[1].contains(words);
  }

  /** "Promise 1" is the section "Promise 1: A new object", and not "Promise 10: satisfies". */
  private static boolean isSection(String heading, String section) {
    return heading.equals(section) || heading.startsWith(section + ":");
  }
}
