import java.io.IOException;
import java.nio.file.Files;
import java.nio.file.Path;

/** The document, sentence by sentence: a test says which one it tests, and at the end none may be left. */
final class Doc {
  private static final int PROMISES = 39;
  private final String[] texts;
  private final boolean[][] tested;
  private final String[] names;

  private Doc(String[] names, String[] texts) {
    this.names = names;
    this.texts = texts;
    tested = new boolean[texts.length][];
    for (int i = 0; i < texts.length; i++) {
      tested[i] = new boolean[texts[i].length()];
    }
  }

  /** What stands under "Terms", the points' numbers and the frames around parts of it left out. */
  static Doc terms() {
    String text = between(read(), "## Terms", "Ahead of the calls `floor`");
    return new Doc(new String[] {"terms"}, new String[] {blanksAsOne(text.replaceAll("(?m)^\\d\\. |```text|```", " "))});
  }

  /** What stands behind the face of each promise's method. */
  static Doc promises() {
    String[] names = new String[PROMISES];
    String[] texts = new String[PROMISES];
    for (int n = 1; n <= PROMISES; n++) {
      names[n - 1] = "promise " + n;
      String text = between(read(), "## Promise " + n + ":", "\n## ");
      texts[n - 1] = blanksAsOne(text.substring(text.indexOf("`: ") + 3));
    }
    return new Doc(names, texts);
  }

  /** What follows tests this sentence, or part of one. */
  void says(String sentence) {
    says(1, sentence);
  }

  /** What follows tests this sentence of promise n. */
  void says(int n, String sentence) {
    Due.part(names[n - 1] + ", " + sentence);
    String text = texts[n - 1];
    int from = text.indexOf(sentence);
    while (from >= 0 && tested[n - 1][from] && text.indexOf(sentence, from + 1) >= 0) {
      from = text.indexOf(sentence, from + 1);
    }
    Due.holds("the document says so", from >= 0);
    for (int i = 0; from >= 0 && i < sentence.length(); i++) {
      tested[n - 1][from + i] = true;
    }
  }

  void noneLeft() {
    for (int n = 0; n < texts.length; n++) {
      Due.part(names[n]);
      StringBuilder left = new StringBuilder();
      for (int i = 0; i < texts[n].length(); i++) {
        if (!tested[n][i]) {
          left.append(texts[n].charAt(i));
        }
      }
      Due.holds("untested: " + left, left.toString().isBlank());
    }
  }

  private static String read() {
    try {
      return Files.readString(Path.of("../shared/DOC.md")) + "\n## ";
    } catch (IOException e) {
      throw new IllegalStateException("the document isn't found from the project's folder", e);
    }
  }

  private static String between(String text, String begin, String end) {
    int from = text.indexOf(begin) + begin.length();
    return text.substring(from, text.indexOf(end, from));
  }

  private static String blanksAsOne(String text) {
    return text.trim().replaceAll("\\s+", " ");
  }
}
