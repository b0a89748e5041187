/** Quotes the document, word by word, each quote with the calls that go wrong where its words are broken. */
abstract class Edges extends Towns {
  private final Doc doc;
  private final Checks checks;
  private String section = "";
  private String words = "";
  private int calls = 1;

  Edges(Doc doc, Checks checks) {
    this.doc = doc;
    this.checks = checks;
  }

  abstract void tell();

  final void in(String next) {
    section = next;
  }

  final void says(String next) {
    endQuote();
    words = next;
    calls = 0;
    checks.holds(section + " says \"" + next + "\"", doc.quote(section, next));
  }

  /** A quote without a call beside it tests nothing. */
  final void endQuote() {
    checks.holds(section + ", \"" + words + "\" has a test", calls > 0);
  }

  final void due(String what, long got, long want) {
    calls++;
    checks.due(section + ", \"" + words + "\": " + what, got, want);
  }

  final void row(String what, int[] got, int... want) {
    due(what + ": how many", got.length, want.length);
    for (int i = 0; i < want.length && i < got.length; i++) {
      due(what + " [" + i + "]", got[i], want[i]);
    }
  }
}
