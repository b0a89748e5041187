import java.nio.file.Files;
import java.nio.file.Path;
import java.util.Arrays;
import java.util.LinkedHashMap;
import java.util.Map;

/** The document, section by section, and which of its words a test has quoted. */
final class Doc {
  private static final Path FILE = Path.of("../shared/DOC.md");
  private static final int PROMISES = 39;
  private final Map<String, String> sections = new LinkedHashMap<>();
  private final Map<String, boolean[]> quoted = new LinkedHashMap<>();

  static Doc open() throws Exception {
    Doc doc = new Doc();
    if (Files.exists(FILE)) {
      doc.cut(Files.readString(FILE).replaceAll("```[a-z]*", " ").replaceAll("\\s+", " "));
    } else {
      System.out.println(FILE + " is not there: quotes are not looked up");
    }
    return doc;
  }

  private void cut(String all) {
    keep("What it is", all, "## What it is", "## The public face");
    keep("Terms", all, "## Terms", "======== 2");
    keep("Part 2", all, "======== 2", "======== 3");
    keep("Part 3", all, "======== 3", "======== 4");
    keep("Part 4", all, "======== 4", "Refusals, the first");
    keep("Refusals", all, "======== 4", "CELLS are EXILED in all. ", "Ahead of the calls `type`");
    for (int i = 1; i <= PROMISES; i++) {
      keep("Promise " + i, all, "## Promise " + i + ":", "`: ", "## ");
    }
  }

  /** Each mark is looked for behind the one ahead; the words stand between the last two. */
  private void keep(String section, String all, String... marks) {
    int from = 0;
    int to = 0;
    for (String mark : marks) {
      from = to;
      int at = all.indexOf(mark, from);
      if (at < 0) {
        throw new IllegalStateException("the document has no " + mark + " for " + section);
      }
      to = at + mark.length();
    }
    String words = all.substring(from, to - marks[marks.length - 1].length()).strip();
    sections.put(section, words);
    quoted.put(section, new boolean[words.length()]);
  }

  /** Whether these words stand in that section; all of them are quoted from then on. */
  boolean quote(String section, String words) {
    if (sections.isEmpty()) {
      return true;
    }
    String text = sections.getOrDefault(section, "");
    int at = text.indexOf(words);
    if (at >= 0) {
      Arrays.fill(quoted.get(section), at, at + words.length(), true);
    }
    return at >= 0;
  }

  /** The sections of which every word is to be quoted, with what is not. */
  Map<String, String> missing() {
    Map<String, String> all = new LinkedHashMap<>();
    sections.forEach((section, words) -> {
      StringBuilder rest = new StringBuilder();
      for (int i = 0; i < words.length(); i++) {
        boolean isWord = Character.isLetterOrDigit(words.charAt(i));
        rest.append(isWord && !quoted.get(section)[i] ? words.charAt(i) : ' ');
      }
      String left = rest.toString().replaceAll(" +", " ").strip();
      all.put(section, section.equals("What it is") ? "" : left);
    });
    return all;
  }
}
