import java.io.IOException;
import java.io.UncheckedIOException;
import java.nio.file.Files;
import java.nio.file.Path;

/**
 * The document, sentence by sentence: a test says which one it tests, and at the end none may be left. Where no
 * document stands, the tests go on without it.
 */
final class Doc {
  private static final Path PLACE = Path.of("../shared/DOC.md");
  private static final int PROMISES = 39;
  private final String[] texts;
  private final boolean[][] tested;
  private final String[] names;

  private Doc(String[] names, String[] texts) {
    this.names = names;
    this.texts = texts;
    tested = new boolean[texts.length][];
    for (int i = 0; i < texts.length; i++) {
      tested[i] = new boolean[texts[i].length()];
    }
  }

  /** What stands under "Terms", the points' numbers and the frames around parts of it left out. */
  static Doc terms() {
    String text = between("## Terms", "Ahead of the calls `floor`").replaceAll("(?m)^\\d\\. |```text|```", " ");
    return new Doc(new String[] {"terms"}, new String[] {blanksAsOne(text)});
  }

  /** What stands behind the face of each promise's method. */
  static Doc promises() {
    String[] names = new String[PROMISES];
    String[] texts = new String[PROMISES];
    for (int n = 1; n <= PROMISES; n++) {
      names[n - 1] = "promise " + n;
      String text = between("## Promise " + n + ":", "\n## ");
      texts[n - 1] = blanksAsOne(text.substring(text.indexOf("`: ") + 2));
    }
    return new Doc(names, texts);
  }

  /** What follows tests this sentence, or part of one. */
  void says(String sentence) {
    says(1, sentence);
  }

  /** What follows tests this sentence of promise n. */
  void says(int n, String sentence) {
    Due.part(names[n - 1] + ", " + sentence);
    if (Files.exists(PLACE)) {
      mark(n - 1, sentence);
    }
  }

  private void mark(int n, String sentence) {
    int from = texts[n].indexOf(sentence);
    // A word such as BEYOND stands in some promises twice.
    while (from >= 0 && tested[n][from] && texts[n].indexOf(sentence, from + 1) >= 0) {
      from = texts[n].indexOf(sentence, from + 1);
    }
    Due.holds("the document says so", from >= 0);
    for (int i = 0; from >= 0 && i < sentence.length(); i++) {
      tested[n][from + i] = true;
    }
  }

  void noneLeft() {
    for (int n = 0; n < texts.length; n++) {
      Due.part(names[n]);
      StringBuilder left = new StringBuilder();
      for (int i = 0; i < texts[n].length(); i++) {
        if (!tested[n][i]) {
          left.append(texts[n].charAt(i));
        }
      }
      Due.holds("untested: " + left, left.toString().isBlank());
    }
  }

  private static String between(String begin, String end) {
    if (!Files.exists(PLACE)) {
      return "";
    }
    String text = read() + "\n## ";
    int from = text.indexOf(begin) + begin.length();
    return text.substring(from, text.indexOf(end, from));
  }

  private static String read() {
    try {
      return Files.readString(PLACE);
    } catch (IOException e) {
      throw new UncheckedIOException(e);
    }
  }

  private static String blanksAsOne(String text) {
    return text.trim().replaceAll("\\s+", " ");
  }
}
