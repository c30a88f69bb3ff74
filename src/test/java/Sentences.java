import java.io.IOException;
import java.nio.file.Files;
import java.nio.file.Path;

/**
 * For tests of single sentences of the document: a test names the heading and the words that it
 * holds to, both are looked up in the document, and every wrong answer is printed with them.
 */
final class Sentences {
  private static final Path DOCUMENT = Path.of("../shared/DOC.md");

  private final Due due = new Due();
  private final String test;
  private final String document;

  Sentences(String test) {
    this.test = test;
    document = read();
    if (document.isEmpty()) {
      System.out.println(test + ": " + DOCUMENT + " is not here, its words are not looked up");
    }
  }

  private static String read() {
    try {
      return Files.isRegularFile(DOCUMENT) ? Files.readString(DOCUMENT) : "";
    } catch (IOException e) {
      return "";
    }
  }

  private static String inOneLine(String text) {
    return text.replaceAll("\\s+", " ");
  }

  private String textUnder(String heading) {
    for (String part : document.split("(?m)^## ")) {
      if (part.startsWith(heading + "\n")) {
        return inOneLine(part);
      }
    }
    return "";
  }

  Due about(String heading, String words) {
    due.under(heading + ", '" + words + "': ");
    if (!document.isEmpty()) {
      due.is("the document has these words", textUnder(heading).contains(inOneLine(words)), true);
    }
    return due;
  }

  void end() {
    due.under("");
    due.end(test);
  }
}
