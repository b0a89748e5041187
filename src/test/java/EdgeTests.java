/** Every sentence of the document that names an edge, with tests of its own; no word of it may be left out. */
public final class EdgeTests {
  public static void main(String[] args) throws Exception {
    Doc doc = Doc.open();
    Checks checks = new Checks("edges");
    Edges[] all = {new TermEdges(doc, checks), new NightEdges(doc, checks), new PlanEdges(doc, checks),
        new CallEdges(doc, checks), new SheetEdges(doc, checks), new RefusalEdges(doc, checks)};
    for (Edges edges : all) {
      edges.tell();
    }
    doc.missing().forEach((section, words) -> checks.holds(section + " has words without a test: " + words, words.isEmpty()));
    checks.end();
  }
}
