/** Promise 8: the times, the groups and the pairs, reckoned by hand from the document's terms. */
public final class TimeTest {
  private static final Due due = new Due();

  private static void plain(IssueTimes x, int n) {
    for (int k = 0; k < n; k++) {
      x.put(0, 0, 0, 0);
    }
  }

  /** T of the second one of two, the first being issued at 3. */
  private static int secondIssued(int kind, int d, int secondKind, int a, int b) {
    IssueTimes x = new IssueTimes();
    x.put(kind, d, 0, 0);
    x.put(secondKind, 0, a, b);
    return x.time(1, 1);
  }

  private static void twoACycle() {
    IssueTimes x = new IssueTimes();
    plain(x, 7);
    due.times("seven plain ones", x,
        1, 3, 6, 1, 3, 6, 2, 4, 7, 2, 4, 7, 3, 5, 8, 3, 5, 8, 4, 6, 9);
    due.timeOfAll("seven plain ones", x, 3, 2, 2, 2, 2, 2, 2, 1);
    due.timeOfAll("seven plain ones", x, 4, 0, 1, 0, 1, 0, 1, 0);
    x.put(0, 0, 0, 0);
    due.is("a second one comes into the group", x.time(6, 3), 2);
    x.drop(1);
    due.is("and goes", x.time(6, 3), 1);
  }

  private static void queueOfFive() {
    IssueTimes x = new IssueTimes();
    x.put(4, 1, 0, 0);
    x.put(0, 0, 1, 0);
    plain(x, 7);
    due.times("behind a divide", x,
        1, 3, 23, 1, 21, 24, 2, 21, 24, 2, 22, 25, 3, 22, 25, 3, 23, 26,
        22, 24, 27, 22, 24, 27, 23, 25, 28);
    due.timeOfAll("behind a divide", x, 4, 0, 0, 1, 0, 1, 0, 0, 1, 0);
  }

  private static void behindOneThatFails() {
    IssueTimes x = new IssueTimes();
    x.put(0, 0, 0, 0);
    x.fail();
    plain(x, 3);
    due.times("the first one fails", x, 1, 3, 6, 7, 9, 12, 7, 9, 12, 8, 10, 13);
    due.timeOfAll("the first one fails", x, 3, 1, 2, 2, 1);
    x.clear();
    x.put(0, 0, 0, 0);
    x.put(7, 0, 0, 0);
    x.put(0, 0, 0, 0);
    due.times("an unreadable one", x, 1, 3, 6, 1, 3, 7, 8, 10, 13);
    due.timeOfAll("an unreadable one", x, 4, 0, 1, 0);
  }

  private static void single() {
    IssueTimes x = new IssueTimes();
    x.put(6, 1, 0, 0);
    x.put(0, 0, 1, 0);
    x.put(6, 0, 0, 0);
    x.put(6, 0, 0, 0);
    due.times("single ones", x, 1, 3, 6, 7, 9, 12, 7, 13, 16, 17, 19, 22);
    due.timeOfAll("single ones", x, 3, 1, 2, 2, 1);
  }

  private static IssueTimes behindPlainAndBranch(int foreseen, boolean goes) {
    IssueTimes x = new IssueTimes();
    x.put(0, 0, 0, 0);
    x.branch(foreseen, goes, 0, 0);
    plain(x, 3);
    return x;
  }

  // Here the slot begins a group, so that what parts it from the next one is seen.
  private static void slotBeginsAGroup() {
    for (int k = 0; k < 4; k++) {
      boolean goes = k % 2 == 0;
      IssueTimes x = behindPlainAndBranch(k == 1 ? 1 : k == 2 ? 2 : 0, goes);
      due.times("missed " + k, x, 1, 3, 6, 1, 3, 6, 2, 4, 7, 5, 7, 10, 5, 7, 10);
      due.timeOfAll("missed " + k, x, 3, 2, 2, 1, 2, 2);
    }
    IssueTimes gone = behindPlainAndBranch(1, true);
    due.times("foreseen to go", gone, 1, 3, 6, 1, 3, 6, 2, 4, 7, 3, 5, 8, 3, 5, 8);
    due.timeOfAll("foreseen to go", gone, 3, 2, 2, 1, 2, 2);
    IssueTimes stayed = behindPlainAndBranch(2, false);
    due.times("foreseen not to go", stayed, 1, 3, 6, 1, 3, 6, 2, 4, 7, 2, 4, 7, 3, 5, 8);
    due.timeOfAll("foreseen not to go", stayed, 3, 2, 2, 2, 2, 1);
  }

  private static void slotEndsAGroup() {
    IssueTimes x = new IssueTimes();
    x.branch(1, true, 0, 0);
    plain(x, 2);
    due.times("foreseen to go", x, 1, 3, 6, 1, 4, 7, 2, 4, 7);
    x.clear();
    x.branch(1, false, 0, 0);
    plain(x, 2);
    due.times("missed", x, 1, 3, 6, 1, 4, 7, 5, 7, 10);
    x.clear();
    x.branch(2, false, 0, 0);
    plain(x, 3);
    due.times("foreseen not to go", x, 1, 3, 6, 1, 4, 7, 2, 4, 7, 2, 5, 8);
  }

  private static void failingAndBranches() {
    IssueTimes x = new IssueTimes();
    x.put(0, 0, 0, 0);
    x.branch(0, true, 0, 0);
    x.put(0, 0, 0, 0);
    x.fail();
    x.put(0, 0, 0, 0);
    due.times("the slot fails", x, 1, 3, 6, 1, 3, 6, 2, 4, 7, 8, 10, 13);
    x.clear();
    x.branch(0, true, 0, 0);
    x.fail();
    plain(x, 3);
    due.times("the branch fails", x, 1, 3, 6, 7, 9, 12, 7, 9, 12, 8, 10, 13);
    x.clear();
    x.branch(0, true, 0, 0);
    x.put(6, 0, 0, 0);
    x.put(0, 0, 0, 0);
    due.times("a single one in the slot", x, 1, 3, 6, 1, 7, 10, 11, 13, 16);
  }

  // The branch waits for its register: F behind the slot follows its T, not its F.
  private static void redirectedByALateBranch() {
    IssueTimes x = new IssueTimes();
    x.put(4, 1, 0, 0);
    x.branch(2, true, 0, 1);
    plain(x, 2);
    due.times("a late branch", x, 1, 3, 23, 1, 21, 24, 2, 22, 25, 23, 25, 28);
  }

  private static void pairs() {
    int[][] apart = {{1, 1}, {1, 2}, {2, 1}, {2, 2}, {3, 3}, {3, 4}, {4, 3}};
    for (int first = 0; first < 5; first++) {
      for (int second = 0; second < 5; second++) {
        int want = 3;
        for (int[] kinds : apart) {
          want = kinds[0] == first && kinds[1] == second ? 4 : want;
        }
        want = first == 4 && second == 4 ? 21 : want;
        due.is("kinds " + first + " and " + second, secondIssued(first, 0, second, 0, 0), want);
      }
    }
    due.is("an unreadable second one", secondIssued(0, 5, 7, 0, 0), 3);
    due.is("a single second one", secondIssued(0, 0, 6, 0, 0), 7);
    due.is("reads another", secondIssued(0, 5, 0, 4, 6), 3);
    IssueTimes x = new IssueTimes();
    x.branch(2, false, 0, 0);
    x.put(0, 0, 0, 0);
    x.branch(2, false, 0, 0);
    due.timeOfAll("a branch is the second one alone", x, 1, 3, 4, 4);
    due.timeOfAll("a branch is the second one alone", x, 4, 0, 0, 1);
    x.clear();
    x.put(0, 1, 0, 0);
    x.put(0, 1, 0, 0);
    due.timeOfAll("both write one register", x, 1, 3, 3);
    x.clear();
    x.put(0, 0, 0, 0);
    x.put(0, 5, 5, 5);
    due.timeOfAll("the second one reads its own D", x, 1, 3, 3);
  }

  private static void noThirdOne() {
    IssueTimes x = new IssueTimes();
    x.put(3, 1, 0, 0);
    x.put(0, 0, 1, 0);
    plain(x, 4);
    due.timeOfAll("all wait for a multiply", x, 1, 3, 6, 6, 7, 7, 8);
    due.timeOfAll("all wait for a multiply", x, 4, 0, 0, 1, 0, 1, 0);
  }

  private static void delays() {
    int[] issued = {4, 5, 4, 6, 21, 0, 9};
    for (int kind = 0; kind < 7; kind++) {
      if (kind != 5) {
        due.is("A behind kind " + kind, secondIssued(kind, 9, 0, 9, 0), issued[kind]);
        due.is("B behind kind " + kind, secondIssued(kind, 9, 0, 0, 9), issued[kind]);
        due.is("both behind kind " + kind, secondIssued(kind, 31, 0, 31, 31), issued[kind]);
      }
    }
    IssueTimes x = new IssueTimes();
    x.put(4, 1, 0, 0);
    x.put(3, 2, 0, 0);
    x.put(1, 3, 0, 0);
    x.put(0, 0, 3, 2);
    due.timeOfAll("the later one of A and B", x, 1, 3, 4, 4, 7);
    x.clear();
    x.put(4, 1, 0, 0);
    x.put(0, 1, 0, 0);
    x.put(0, 0, 1, 0);
    due.timeOfAll("the last one that wrote it", x, 1, 3, 3, 4);
    x.clear();
    x.put(3, 0, 0, 0);
    x.put(0, 0, 0, 0);
    due.timeOfAll("register 0 is none", x, 1, 3, 3);
    x.clear();
    x.put(3, 1, 0, 0);
    x.branch(2, false, 5, 1);
    x.put(0, 0, 5, 0);
    due.timeOfAll("a branch reads A and writes D", x, 1, 3, 6, 7);
    x.clear();
    x.put(3, 1, 1, 1);
    x.put(3, 1, 1, 1);
    due.timeOfAll("one does not wait for itself", x, 1, 3, 6);
  }

  private static void divides() {
    IssueTimes x = new IssueTimes();
    x.put(4, 0, 0, 0);
    plain(x, 2);
    x.put(4, 0, 0, 0);
    x.put(3, 0, 0, 0);
    x.put(4, 0, 0, 0);
    due.timeOfAll("divides", x, 1, 3, 3, 4, 21, 22, 39);
    due.timeOfAll("divides", x, 2, 23, 23, 24, 41, 41, 59);
  }

  private static void done() {
    IssueTimes x = new IssueTimes();
    for (int kind = 0; kind < 5; kind++) {
      x.clear();
      x.put(kind, 0, 0, 0);
      due.is("C of kind " + kind, x.time(0, 2), new int[] {6, 6, 6, 8, 23}[kind]);
    }
    x.clear();
    x.put(4, 0, 0, 0);
    plain(x, 4);
    due.timeOfAll("two are done at once", x, 2, 23, 23, 24, 24, 25);
    x.clear();
    x.put(4, 0, 0, 0);
    x.put(0, 0, 0, 0);
    x.fail();
    due.timeOfAll("one that fails is done alone", x, 2, 23, 24);
    x.clear();
    x.put(0, 0, 0, 0);
    x.fail();
    due.timeOfAll("the first one fails", x, 2, 6);
  }

  private static void refuses() {
    IssueTimes x = new IssueTimes();
    plain(x, 2);
    for (int what = 0; what < 5; what++) {
      for (int i : new int[] {-1, 2, 399, 400, Integer.MIN_VALUE, Integer.MAX_VALUE}) {
        due.is("time(" + i + ", " + what + ")", x.time(i, what), -1);
      }
    }
    for (int what : new int[] {-1, 5, 6, Integer.MIN_VALUE, Integer.MAX_VALUE}) {
      due.is("time(0, " + what + ")", x.time(0, what), -1);
    }
  }

  public static void main(String[] args) {
    twoACycle();
    queueOfFive();
    behindOneThatFails();
    single();
    slotBeginsAGroup();
    slotEndsAGroup();
    failingAndBranches();
    redirectedByALateBranch();
    pairs();
    noThirdOne();
    delays();
    divides();
    done();
    refuses();
    due.end("TimeTest");
  }
}
