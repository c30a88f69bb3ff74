/** Promise 9: what an instruction is, and how it lies. */
public final class OfTest {
  private static final Due due = new Due();

  private static void numbers() {
    IssueTimes x = new IssueTimes();
    x.put(2, 1, 2, 3);
    x.branch(1, true, 4, 5);
    x.put(7, 0, 0, 0);
    due.ofAll("kinds", x, 0, 2, 5, 7);
    due.ofAll("D", x, 1, 1, 4, 0);
    due.ofAll("A", x, 2, 2, 5, 0);
    due.ofAll("B", x, 3, 3, 0, 0);
    due.ofAll("fails", x, 4, 0, 0, 1);
  }

  private static void slots() {
    IssueTimes x = new IssueTimes();
    x.branch(2, false, 0, 0);
    x.put(0, 0, 0, 0);
    x.put(0, 0, 0, 0);
    x.branch(0, true, 0, 0);
    x.branch(0, true, 0, 0);
    x.put(0, 0, 0, 0);
    x.branch(0, true, 0, 0);
    x.fail();
    x.put(0, 0, 0, 0);
    due.ofAll("in a slot", x, 5, 0, 1, 0, 0, 1, 0, 0, 0);
    due.ofAll("fails", x, 4, 0, 0, 0, 0, 1, 0, 1, 0);
    due.ofAll("redirected", x, 6, 0, 0, 0, 0, 0, 1, 0, 1);
    due.ofAll("lies behind", x, 7, 0, 1, 1, 1, 1, 0, 1, 0);
  }

  private static void foresights() {
    int[][] cases = {{0, 0, 1, 1}, {0, 1, 1, 0}, {1, 0, 1, 1}, {1, 1, 0, 0}, {2, 0, 0, 1}, {2, 1, 1, 0}};
    for (int[] c : cases) {
      IssueTimes x = new IssueTimes();
      x.branch(c[0], c[1] == 1, 0, 0);
      x.put(0, 0, 0, 0);
      x.put(0, 0, 0, 0);
      x.put(0, 0, 0, 0);
      String row = "foreseen " + c[0] + ", goes " + c[1];
      due.ofAll(row, x, 6, 0, 0, c[2], 0);
      due.ofAll(row, x, 7, 0, 1, c[3], 1);
    }
  }

  private static void singleAndFailing() {
    IssueTimes x = new IssueTimes();
    x.put(6, 0, 0, 0);
    x.put(0, 0, 0, 0);
    x.fail();
    x.put(7, 0, 0, 0);
    x.put(0, 0, 0, 0);
    due.ofAll("redirected", x, 6, 0, 1, 1, 1);
    due.ofAll("lies behind", x, 7, 0, 1, 0, 0);
    due.ofAll("fails", x, 4, 0, 1, 1, 0);
  }

  private static void refuses() {
    IssueTimes x = new IssueTimes();
    x.put(0, 1, 2, 3);
    for (int what = 0; what < 8; what++) {
      for (int i : new int[] {-1, 1, 399, 400, Integer.MIN_VALUE, Integer.MAX_VALUE}) {
        due.is("of(" + i + ", " + what + ")", x.of(i, what), -1);
      }
    }
    for (int what : new int[] {-1, 8, Integer.MIN_VALUE, Integer.MAX_VALUE}) {
      due.is("of(0, " + what + ")", x.of(0, what), -1);
    }
  }

  public static void main(String[] args) {
    numbers();
    slots();
    foresights();
    singleAndFailing();
    refuses();
    due.end("OfTest");
  }
}
