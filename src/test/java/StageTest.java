/** Promises 10 and 11: where instructions are in a cycle, and how many. */
public final class StageTest {
  private static final Due due = new Due();

  // F 1, 1, 2; T 3, 6, 6; C 8, 9, 9.
  private static IssueTimes three() {
    IssueTimes x = new IssueTimes();
    x.put(3, 1, 0, 0);
    x.put(0, 0, 1, 0);
    x.put(0, 0, 0, 0);
    return x;
  }

  private static void stages() {
    IssueTimes x = three();
    int[][] want = {
        {0, 1, 1, 2, 2, 2, 2, 2, 3, 3, 3},
        {0, 1, 1, 1, 1, 1, 2, 2, 2, 3, 3},
        {0, 0, 1, 1, 1, 1, 2, 2, 2, 3, 3}};
    for (int i = 0; i < 3; i++) {
      for (int cycle = 0; cycle < 11; cycle++) {
        due.is("stage(" + i + ", " + cycle + ")", x.stage(i, cycle), want[i][cycle]);
      }
      due.is("stage at the end", x.stage(i, Integer.MAX_VALUE), 3);
    }
    int[] none = {-1, Integer.MIN_VALUE};
    for (int cycle : none) {
      due.is("stage(0, " + cycle + ")", x.stage(0, cycle), -1);
    }
    for (int i : new int[] {-1, 3, 400, Integer.MIN_VALUE, Integer.MAX_VALUE}) {
      due.is("stage(" + i + ", 5)", x.stage(i, 5), -1);
    }
  }

  private static void numbers() {
    IssueTimes x = three();
    int[][] want = {
        {3, 1, 0, 0, 0, 0, 0, 0, 0, 0},
        {0, 2, 3, 2, 2, 2, 0, 0, 0, 0},
        {0, 0, 0, 1, 1, 1, 3, 3, 2, 0},
        {0, 0, 0, 0, 0, 0, 0, 0, 1, 3}};
    for (int stage = 0; stage < 4; stage++) {
      for (int cycle = 0; cycle < 10; cycle++) {
        due.is("many(" + stage + ", " + cycle + ")", x.many(stage, cycle), want[stage][cycle]);
      }
      due.is("many(" + stage + ", -1)", x.many(stage, -1), -1);
      due.is("many(" + stage + ", least)", x.many(stage, Integer.MIN_VALUE), -1);
      due.is("many of none", new IssueTimes().many(stage, 3), 0);
    }
    due.is("many(3, most)", x.many(3, Integer.MAX_VALUE), 3);
    for (int stage : new int[] {-1, 4, Integer.MIN_VALUE, Integer.MAX_VALUE}) {
      due.is("many(" + stage + ", 5)", x.many(stage, 5), -1);
    }
    x.drop(1);
    due.is("many behind drop", x.many(2, 6), 2);
  }

  public static void main(String[] args) {
    stages();
    numbers();
    due.end("StageTest");
  }
}
