/** The boundary cases of promises 1 to 7, a test for each. */
public final class BoundaryRowTest {
  private static final Sentences sentences = new Sentences("BoundaryRowTest");

  // Promise 1.

  private static void aNewRowIsEmpty() {
    Due due = sentences.about("Promise 1: A new object", "THE ROW is empty.");
    IssueTimes x = new IssueTimes();
    for (int which = 0; which < 7; which++) {
      due.is("look(" + which + ")", x.look(which), 0);
    }
    for (int stage = 0; stage < 4; stage++) {
      due.is("many(" + stage + ", 0)", x.many(stage, 0), 0);
    }
    due.is("time(0, 0)", x.time(0, 0), -1);
    due.is("of(0, 0)", x.of(0, 0), -1);
    due.is("stage(0, 0)", x.stage(0, 0), -1);
  }

  private static void theFirstCallOfANewObject() {
    Due due = sentences.about("Promise 1: A new object", "THE ROW is empty.");
    due.is("fail()", new IssueTimes().fail(), false);
    due.is("drop(1)", new IssueTimes().drop(1), false);
    due.is("drop(0)", new IssueTimes().drop(0), true);
    due.is("again(0, 1)", new IssueTimes().again(0, 1), -1);
    due.is("put", new IssueTimes().put(0, 0, 0, 0), 0);
    due.is("branch", new IssueTimes().branch(0, false, 0, 0), 0);
  }

  private static void aNewRowIsItsOwn() {
    Due due = sentences.about("Promise 1: A new object", "THE ROW is empty.");
    IssueTimes old = Rows.ofKinds(5, 4, 6);
    IssueTimes x = new IssueTimes();
    due.is("look(0) beside another", x.look(0), 0);
    x.put(0, 1, 0, 0);
    due.ofAll("the other", old, 0, 5, 4, 6);
    due.is("of(0, 5) beside another", x.of(0, 5), 0);
  }

  // Promise 2.

  private static void thePutNumberIsFrom0To399() {
    Due due = sentences.about("Promise 2: put", "its number");
    IssueTimes x = new IssueTimes();
    for (int i = 0; i < 400; i++) {
      due.is("put number " + i, x.put(0, 0, 0, 0), i);
    }
  }

  private static void thePutNumberBehindThoseThatWent() {
    Due due = sentences.about("Promise 2: put", "its number");
    IssueTimes x = Rows.ofPlain(5);
    x.drop(2);
    due.is("put behind drop(2) of five", x.put(0, 0, 0, 0), 3);
    x.clear();
    due.is("put behind clear()", x.put(0, 0, 0, 0), 0);
  }

  private static void aKindTooSmall() {
    Due due = sentences.about("Promise 2: put", "NONE if a number is none");
    for (int kind : Rows.TOO_SMALL) {
      due.is("put of kind " + kind, new IssueTimes().put(kind, 0, 0, 0), -1);
    }
    due.is("put of kind 0", new IssueTimes().put(0, 0, 0, 0), 0);
  }

  private static void aKindTooLarge() {
    Due due = sentences.about("Promise 2: put", "NONE if a number is none");
    for (int kind : new int[] {8, 9, 16, 256, Integer.MAX_VALUE}) {
      due.is("put of kind " + kind, new IssueTimes().put(kind, 0, 0, 0), -1);
    }
    due.is("put of kind 7", new IssueTimes().put(7, 0, 0, 0), 0);
  }

  private static void aBranchIsNotPut() {
    Due due = sentences.about("Promise 2: put", "One more INSTRUCTION, that is no BRANCH");
    due.is("put of kind 4", new IssueTimes().put(4, 0, 0, 0), 0);
    due.is("put of kind 5", new IssueTimes().put(5, 0, 0, 0), -1);
    due.is("put of kind 5 with registers", new IssueTimes().put(5, 1, 2, 3), -1);
    due.is("put of kind 6", new IssueTimes().put(6, 0, 0, 0), 0);
  }

  private static void aPutRegisterTooSmall() {
    Due due = sentences.about("Promise 2: put", "NONE if a number is none");
    for (int kind : new int[] {0, 1, 2, 3, 4, 6}) {
      for (int r : Rows.TOO_SMALL) {
        due.is("kind " + kind + ", D " + r, new IssueTimes().put(kind, r, 0, 0), -1);
        due.is("kind " + kind + ", A " + r, new IssueTimes().put(kind, 0, r, 0), -1);
        due.is("kind " + kind + ", B " + r, new IssueTimes().put(kind, 0, 0, r), -1);
      }
    }
  }

  private static void aPutRegisterTooLarge() {
    Due due = sentences.about("Promise 2: put", "NONE if a number is none");
    for (int kind : new int[] {0, 1, 2, 3, 4, 6}) {
      for (int r : Rows.NO_REGISTER_TOO_LARGE) {
        due.is("kind " + kind + ", D " + r, new IssueTimes().put(kind, r, 0, 0), -1);
        due.is("kind " + kind + ", A " + r, new IssueTimes().put(kind, 0, r, 0), -1);
        due.is("kind " + kind + ", B " + r, new IssueTimes().put(kind, 0, 0, r), -1);
      }
    }
  }

  private static void theLeastAndTheLastPutRegister() {
    Due due = sentences.about("Terms", "registers A, B that it reads, 0 .. 31 each");
    for (int kind : new int[] {0, 1, 2, 3, 4, 6}) {
      for (int r : new int[] {0, 1, 30, 31}) {
        IssueTimes x = new IssueTimes();
        due.is("kind " + kind + ", D " + r, x.put(kind, r, 0, 0), 0);
        due.is("kind " + kind + ", A " + r, x.put(kind, 0, r, 0), 1);
        due.is("kind " + kind + ", B " + r, x.put(kind, 0, 0, r), 2);
        due.ofAll("kind " + kind, x, 1, r, 0, 0);
        due.ofAll("kind " + kind, x, 2, 0, r, 0);
        due.ofAll("kind " + kind, x, 3, 0, 0, r);
      }
    }
  }

  private static void anUnreadableOneWithD() {
    Due due = sentences.about("Promise 2: put", "(an UNREADABLE one has D, A, B 0)");
    for (int r : new int[] {1, 31, 32, -1}) {
      due.is("put(7, " + r + ", 0, 0)", new IssueTimes().put(7, r, 0, 0), -1);
    }
  }

  private static void anUnreadableOneWithA() {
    Due due = sentences.about("Promise 2: put", "(an UNREADABLE one has D, A, B 0)");
    for (int r : new int[] {1, 31, 32, -1}) {
      due.is("put(7, 0, " + r + ", 0)", new IssueTimes().put(7, 0, r, 0), -1);
    }
  }

  private static void anUnreadableOneWithB() {
    Due due = sentences.about("Promise 2: put", "(an UNREADABLE one has D, A, B 0)");
    for (int r : new int[] {1, 31, 32, -1}) {
      due.is("put(7, 0, 0, " + r + ")", new IssueTimes().put(7, 0, 0, r), -1);
    }
  }

  private static void anUnreadableOneWithNone() {
    Due due = sentences.about("Promise 2: put", "(an UNREADABLE one has D, A, B 0)");
    due.is("put(7, 0, 0, 0)", new IssueTimes().put(7, 0, 0, 0), 0);
  }

  private static void putInAFullRow() {
    Due due = sentences.about("Promise 2: put", "or there are 400");
    IssueTimes x = Rows.full();
    for (int kind = 0; kind < 8; kind++) {
      due.is("put of kind " + kind, x.put(kind, 0, 0, 0), -1);
    }
    due.is("put of a wrong kind", x.put(8, 0, 0, 0), -1);
    due.is("put of a wrong register", x.put(0, 32, 0, 0), -1);
    due.is("look(0)", x.look(0), 400);
  }

  private static void putInARowOf399() {
    Due due = sentences.about("Promise 2: put", "or there are 400");
    IssueTimes x = Rows.full();
    x.drop(1);
    due.is("put", x.put(1, 2, 3, 4), 399);
    due.is("of(399, 0)", x.of(399, 0), 1);
    due.is("put once more", x.put(1, 2, 3, 4), -1);
  }

  // Promise 3.

  private static void foreseenTooSmall() {
    Due due = sentences.about("Promise 3: branch", "foreseen 0 not, 1 to go, 2 not to go.");
    for (int foreseen : Rows.TOO_SMALL) {
      due.is("goes, " + foreseen, new IssueTimes().branch(foreseen, true, 0, 0), -1);
      due.is("does not go, " + foreseen, new IssueTimes().branch(foreseen, false, 0, 0), -1);
    }
    due.is("0", new IssueTimes().branch(0, true, 0, 0), 0);
  }

  private static void foreseenTooLarge() {
    Due due = sentences.about("Promise 3: branch", "foreseen 0 not, 1 to go, 2 not to go.");
    for (int foreseen : new int[] {3, 4, 5, 256, Integer.MAX_VALUE}) {
      due.is("goes, " + foreseen, new IssueTimes().branch(foreseen, true, 0, 0), -1);
      due.is("does not go, " + foreseen, new IssueTimes().branch(foreseen, false, 0, 0), -1);
    }
    due.is("2", new IssueTimes().branch(2, true, 0, 0), 0);
  }

  private static void aBranchRegisterTooSmall() {
    Due due = sentences.about("Promise 3: branch", "A BRANCH likewise");
    for (int r : Rows.TOO_SMALL) {
      due.is("D " + r, new IssueTimes().branch(0, true, r, 0), -1);
      due.is("A " + r, new IssueTimes().branch(0, true, 0, r), -1);
    }
  }

  private static void aBranchRegisterTooLarge() {
    Due due = sentences.about("Promise 3: branch", "A BRANCH likewise");
    for (int r : Rows.NO_REGISTER_TOO_LARGE) {
      due.is("D " + r, new IssueTimes().branch(0, true, r, 0), -1);
      due.is("A " + r, new IssueTimes().branch(0, true, 0, r), -1);
    }
  }

  private static void theLeastAndTheLastBranchRegister() {
    Due due = sentences.about("Terms", "registers A, B that it reads, 0 .. 31 each");
    for (int r : new int[] {0, 1, 30, 31}) {
      IssueTimes x = new IssueTimes();
      due.is("branch with D " + r, x.branch(0, true, r, 0), 0);
      due.is("branch with A " + r, x.branch(0, true, 0, r), 1);
      due.ofAll("D", x, 1, r, 0);
      due.ofAll("A", x, 2, 0, r);
      due.ofAll("B", x, 3, 0, 0);
    }
  }

  private static void branchInAFullRow() {
    Due due = sentences.about("Promise 3: branch", "A BRANCH likewise");
    IssueTimes x = Rows.full();
    for (int foreseen = 0; foreseen < 3; foreseen++) {
      due.is("foreseen " + foreseen, x.branch(foreseen, true, 0, 0), -1);
    }
    due.is("wrongly foreseen", x.branch(3, true, 0, 0), -1);
    due.is("look(0)", x.look(0), 400);
  }

  private static void branchInARowOf399() {
    Due due = sentences.about("Promise 3: branch", "A BRANCH likewise");
    IssueTimes x = Rows.full();
    x.drop(1);
    due.is("branch", x.branch(1, true, 0, 0), 399);
    due.is("branch once more", x.branch(1, true, 0, 0), -1);
    due.is("of(399, 0)", x.of(399, 0), 5);
    due.is("of(399, 4)", x.of(399, 4), 0);
  }

  private static void aBranchInASlotFails() {
    Due due = sentences.about("Promise 3: branch", "(In a SLOT it FAILS.)");
    IssueTimes x = new IssueTimes();
    due.is("the first branch", x.branch(1, true, 0, 0), 0);
    due.is("a branch in its slot", x.branch(1, true, 0, 0), 1);
    due.ofAll("fails", x, 4, 0, 1);
  }

  private static void aBranchBehindASlotDoesNotFail() {
    Due due = sentences.about("Promise 3: branch", "(In a SLOT it FAILS.)");
    IssueTimes x = Rows.ofKinds(5, 0, 5);
    due.ofAll("behind one in a slot", x, 4, 0, 0, 0);
    x = Rows.ofKinds(5, 5, 5, 5, 5);
    due.ofAll("each second one is in a slot", x, 4, 0, 1, 0, 1, 0);
  }

  private static void aBranchInTheLastPlaceAndItsSlot() {
    Due due = sentences.about("Promise 3: branch", "(In a SLOT it FAILS.)");
    IssueTimes x = Rows.full();
    x.drop(2);
    due.is("branch 398", x.branch(2, false, 0, 0), 398);
    due.is("branch 399", x.branch(2, false, 0, 0), 399);
    due.is("of(398, 4)", x.of(398, 4), 0);
    due.is("of(399, 4)", x.of(399, 4), 1);
  }

  // Promise 4.

  private static void failWithoutOne() {
    Due due = sentences.about("Promise 4: fail", "false if there is none");
    IssueTimes x = new IssueTimes();
    due.is("fail() of a new row", x.fail(), false);
    x.put(0, 0, 0, 0);
    x.drop(1);
    due.is("fail() behind drop of all", x.fail(), false);
    x.put(0, 0, 0, 0);
    x.clear();
    due.is("fail() behind clear", x.fail(), false);
    x.put(0, 0, 0, 0);
    due.ofAll("what comes then", x, 4, 0);
  }

  private static void failOfTheOnlyOne() {
    Due due = sentences.about("Promise 4: fail", "The last INSTRUCTION FAILS");
    IssueTimes x = Rows.ofPlain(1);
    due.is("fail()", x.fail(), true);
    due.ofAll("the only one", x, 4, 1);
  }

  private static void failOfTheLastOneAlone() {
    Due due = sentences.about("Promise 4: fail", "The last INSTRUCTION FAILS");
    IssueTimes x = Rows.ofPlain(3);
    due.is("fail()", x.fail(), true);
    due.ofAll("three", x, 4, 0, 0, 1);
  }

  private static void failInAFullRow() {
    Due due = sentences.about("Promise 4: fail", "The last INSTRUCTION FAILS");
    IssueTimes x = Rows.full();
    due.is("fail()", x.fail(), true);
    due.is("of(398, 4)", x.of(398, 4), 0);
    due.is("of(399, 4)", x.of(399, 4), 1);
    due.is("time(399, 2)", x.time(399, 2), 206);
  }

  private static void failOfOneThatFailedByFail() {
    Due due = sentences.about("Promise 4: fail", "FAILS (if it did not): true");
    IssueTimes x = Rows.ofPlain(2);
    due.is("fail()", x.fail(), true);
    due.is("fail() once more", x.fail(), true);
    due.ofAll("fails", x, 4, 0, 1);
    due.times("two", x, 1, 3, 6, 1, 3, 7);
  }

  private static void failOfAnUnreadableOne() {
    Due due = sentences.about("Promise 4: fail", "FAILS (if it did not): true");
    IssueTimes x = Rows.ofKinds(0, 7);
    due.is("fail()", x.fail(), true);
    due.ofAll("fails", x, 4, 0, 1);
    due.times("two", x, 1, 3, 6, 1, 3, 7);
  }

  private static void failOfABranchInASlot() {
    Due due = sentences.about("Promise 4: fail", "FAILS (if it did not): true");
    IssueTimes x = Rows.ofKinds(5, 5);
    due.is("fail()", x.fail(), true);
    due.ofAll("fails", x, 4, 0, 1);
    due.times("two", x, 1, 3, 6, 1, 4, 7);
  }

  private static void failTakesTheSlotAway() {
    Due due = sentences.about("Promise 4: fail", "The last INSTRUCTION FAILS");
    IssueTimes x = Rows.ofKinds(5);
    due.is("fail()", x.fail(), true);
    x.branch(2, false, 0, 0);
    due.ofAll("a branch behind a failing branch fails not", x, 4, 1, 0);
    due.ofAll("and is in no slot", x, 5, 0, 0);
  }

  // Promise 5.

  private static void dropOfNone() {
    Due due = sentences.about("Promise 5: drop", "The last n INSTRUCTIONS go: true");
    IssueTimes x = new IssueTimes();
    due.is("drop(0) of an empty row", x.drop(0), true);
    Rows.plain(x, 3);
    due.is("drop(0) of three", x.drop(0), true);
    due.is("look(0)", x.look(0), 3);
  }

  private static void dropOfOne() {
    Due due = sentences.about("Promise 5: drop", "The last n INSTRUCTIONS go: true");
    IssueTimes x = Rows.ofKinds(1, 2, 3);
    due.is("drop(1)", x.drop(1), true);
    due.ofAll("what stays", x, 0, 1, 2);
    due.is("of(2, 0)", x.of(2, 0), -1);
  }

  private static void dropOfAll() {
    Due due = sentences.about("Promise 5: drop", "The last n INSTRUCTIONS go: true");
    IssueTimes x = Rows.ofPlain(3);
    due.is("drop(3) of three", x.drop(3), true);
    due.is("look(0)", x.look(0), 0);
    due.is("look(1)", x.look(1), 0);
    due.is("time(0, 0)", x.time(0, 0), -1);
  }

  private static void dropOfAFullRow() {
    Due due = sentences.about("Promise 5: drop", "The last n INSTRUCTIONS go: true");
    IssueTimes x = Rows.full();
    due.is("drop(400)", x.drop(400), true);
    due.is("look(0)", x.look(0), 0);
    due.is("put", x.put(0, 0, 0, 0), 0);
  }

  private static void dropOfMoreThanThereAre() {
    Due due = sentences.about("Promise 5: drop", "false if there are fewer");
    IssueTimes x = new IssueTimes();
    due.is("drop(1) of an empty row", x.drop(1), false);
    Rows.plain(x, 3);
    for (int n : new int[] {4, 5, 400, 401, Integer.MAX_VALUE}) {
      due.is("drop(" + n + ") of three", x.drop(n), false);
    }
    due.is("look(0)", x.look(0), 3);
    due.is("drop(401) of a full row", Rows.full().drop(401), false);
  }

  private static void dropOfFewerThanNone() {
    Due due = sentences.about("Promise 5: drop", "or n is below 0");
    for (int n : Rows.TOO_SMALL) {
      due.is("drop(" + n + ") of an empty row", new IssueTimes().drop(n), false);
      IssueTimes x = Rows.ofPlain(3);
      due.is("drop(" + n + ") of three", x.drop(n), false);
      due.is("look(0)", x.look(0), 3);
    }
  }

  private static void dropBetweenABranchAndItsSlot() {
    Due due = sentences.about("Promise 5: drop", "The last n INSTRUCTIONS go: true");
    IssueTimes x = Rows.ofKinds(5, 5, 0);
    x.drop(2);
    x.put(0, 0, 0, 0);
    due.ofAll("the branch stays: a new one in its slot", x, 5, 0, 1);
    due.ofAll("which does not fail", x, 4, 0, 0);
    x.drop(2);
    Rows.plain(x, 2);
    due.ofAll("the branch went too", x, 5, 0, 0);
  }

  private static void dropOfOneThatFailed() {
    Due due = sentences.about("Promise 5: drop", "The last n INSTRUCTIONS go: true");
    IssueTimes x = Rows.ofPlain(2);
    x.fail();
    x.drop(1);
    x.put(0, 0, 0, 0);
    due.ofAll("a new one in its place", x, 4, 0, 0);
    due.times("a new one in its place", x, 1, 3, 6, 1, 3, 6);
  }

  // Promise 6.

  private static void clearOfAnEmptyRow() {
    Due due = sentences.about("Promise 6: clear", "THE ROW is empty.");
    IssueTimes x = new IssueTimes();
    x.clear();
    x.clear();
    due.is("look(0)", x.look(0), 0);
    due.is("put", x.put(0, 0, 0, 0), 0);
  }

  private static void clearOfAFullRow() {
    Due due = sentences.about("Promise 6: clear", "THE ROW is empty.");
    IssueTimes x = Rows.full();
    x.clear();
    for (int which = 0; which < 7; which++) {
      due.is("look(" + which + ")", x.look(which), 0);
    }
    due.is("time(0, 0)", x.time(0, 0), -1);
    due.is("of(399, 0)", x.of(399, 0), -1);
    due.is("stage(0, 0)", x.stage(0, 0), -1);
    due.is("many(3, 1000)", x.many(3, 1000), 0);
    for (int i = 0; i < 400; i++) {
      due.is("put number " + i, x.put(0, 0, 0, 0), i);
    }
    due.is("put number 400", x.put(0, 0, 0, 0), -1);
  }

  private static void clearLeavesNothingBehind() {
    Due due = sentences.about("Promise 6: clear", "THE ROW is empty.");
    IssueTimes x = new IssueTimes();
    x.put(4, 1, 0, 0);
    x.branch(0, true, 2, 1);
    x.fail();
    x.clear();
    x.put(4, 0, 1, 2);
    due.times("a new divide", x, 1, 3, 23);
    due.ofAll("fails", x, 4, 0);
    x.put(0, 0, 1, 2);
    due.times("a plain one where a failing branch was", x, 1, 3, 23, 1, 3, 23);
    due.ofAll("fails", x, 4, 0, 0);
  }

  // Promise 7.

  private static void againFromBelow0() {
    Due due = sentences.about("Promise 7: again", "NONE if there are none such");
    IssueTimes x = Rows.ofPlain(3);
    for (int i : Rows.TOO_SMALL) {
      for (int n : new int[] {1, 2, 3, 4, Integer.MAX_VALUE}) {
        due.is("again(" + i + ", " + n + ") of three", x.again(i, n), -1);
      }
    }
    due.is("look(0)", x.look(0), 3);
  }

  private static void againFromBehindTheLastOne() {
    Due due = sentences.about("Promise 7: again", "NONE if there are none such");
    IssueTimes x = Rows.ofPlain(3);
    for (int i : new int[] {3, 4, 399, 400, Integer.MAX_VALUE}) {
      due.is("again(" + i + ", 1) of three", x.again(i, 1), -1);
    }
    due.is("look(0)", x.look(0), 3);
  }

  private static void againOfDroppedOnes() {
    Due due = sentences.about("Promise 7: again", "NONE if there are none such");
    IssueTimes x = Rows.ofPlain(3);
    x.drop(1);
    due.is("again(2, 1) behind drop(1)", x.again(2, 1), -1);
    due.is("again(1, 2) behind drop(1)", x.again(1, 2), -1);
    due.is("again(1, 1) behind drop(1)", x.again(1, 1), 3);
    x.clear();
    due.is("again(0, 1) behind clear", x.again(0, 1), -1);
  }

  private static void againOfAnEmptyRow() {
    Due due = sentences.about("Promise 7: again", "NONE if there are none such");
    for (int n : new int[] {-1, 0, 1, 400, 401}) {
      due.is("again(0, " + n + ")", new IssueTimes().again(0, n), -1);
    }
  }

  private static void againOfMoreThanThereAre() {
    Due due = sentences.about("Promise 7: again", "NONE if there are none such");
    IssueTimes x = Rows.ofPlain(3);
    int[][] wrong = {{0, 4}, {1, 3}, {2, 2}, {0, 397}, {0, 398}};
    for (int[] w : wrong) {
      due.is("again(" + w[0] + ", " + w[1] + ") of three", x.again(w[0], w[1]), -1);
    }
    due.is("look(0)", x.look(0), 3);
  }

  private static void againWithASumThatWraps() {
    Due due = sentences.about("Promise 7: again", "NONE if there are none such");
    IssueTimes x = Rows.ofPlain(3);
    for (int i = 0; i < 3; i++) {
      due.is("again(" + i + ", most)", x.again(i, Integer.MAX_VALUE), -1);
      due.is("again(" + i + ", most - 1)", x.again(i, Integer.MAX_VALUE - 1), -1);
    }
    due.is("again(most, most)", x.again(Integer.MAX_VALUE, Integer.MAX_VALUE), -1);
    due.is("again(least, most)", x.again(Integer.MIN_VALUE, Integer.MAX_VALUE), -1);
    due.is("again(least, least)", x.again(Integer.MIN_VALUE, Integer.MIN_VALUE), -1);
    due.is("again(most, least)", x.again(Integer.MAX_VALUE, Integer.MIN_VALUE), -1);
    due.is("look(0)", x.look(0), 3);
  }

  private static void againOfFewerThanOne() {
    Due due = sentences.about("Promise 7: again", "n is below 1");
    IssueTimes x = Rows.ofPlain(3);
    for (int n : new int[] {0, -1, -2, -3, Integer.MIN_VALUE}) {
      for (int i = 0; i < 4; i++) {
        due.is("again(" + i + ", " + n + ") of three", x.again(i, n), -1);
      }
    }
    due.is("look(0)", x.look(0), 3);
    due.is("again(0, 1)", x.again(0, 1), 4);
  }

  private static void againOfAll() {
    Due due = sentences.about("Promise 7: again", "INSTRUCTIONS from i on, n of them");
    IssueTimes x = Rows.ofKinds(1, 2, 3);
    due.is("again(0, 3) of three", x.again(0, 3), 6);
    due.ofAll("all", x, 0, 1, 2, 3, 1, 2, 3);
  }

  private static void againOfTheLastOne() {
    Due due = sentences.about("Promise 7: again", "INSTRUCTIONS from i on, n of them");
    IssueTimes x = Rows.ofKinds(1, 2, 3);
    due.is("again(2, 1) of three", x.again(2, 1), 4);
    due.ofAll("the last one", x, 0, 1, 2, 3, 3);
  }

  private static void againOfTheFirstOne() {
    Due due = sentences.about("Promise 7: again", "INSTRUCTIONS from i on, n of them");
    IssueTimes x = Rows.ofKinds(1, 2, 3);
    due.is("again(0, 1) of three", x.again(0, 1), 4);
    due.ofAll("the first one", x, 0, 1, 2, 3, 1);
  }

  private static void againToJust400() {
    Due due = sentences.about("Promise 7: again", "or there would be more than 400");
    IssueTimes x = Rows.full();
    x.drop(1);
    due.is("again(0, 1) of 399", x.again(0, 1), 400);
    x.drop(200);
    due.is("again(0, 200) of 200", x.again(0, 200), 400);
    x.drop(1);
    due.is("again(398, 1) of 399", x.again(398, 1), 400);
    due.is("look(0)", x.look(0), 400);
  }

  private static void againToMoreThan400() {
    Due due = sentences.about("Promise 7: again", "or there would be more than 400");
    IssueTimes x = Rows.full();
    due.is("again(0, 1) of 400", x.again(0, 1), -1);
    due.is("again(399, 1) of 400", x.again(399, 1), -1);
    due.is("again(0, 400) of 400", x.again(0, 400), -1);
    x.drop(1);
    due.is("again(0, 2) of 399", x.again(0, 2), -1);
    x.drop(198);
    due.is("again(0, 200) of 201", x.again(0, 200), -1);
    due.is("again(0, 201) of 201", x.again(0, 201), -1);
    due.is("look(0)", x.look(0), 201);
  }

  private static void againOfABranchThatFailedByItsSlot() {
    Due due = sentences.about("Promise 7: again", "as they were put in (and by fail())");
    IssueTimes x = Rows.ofKinds(5, 5, 0);
    due.is("again(1, 1)", x.again(1, 1), 4);
    due.ofAll("in no slot now", x, 4, 0, 1, 0, 0);
  }

  private static void againOfABranchThatComesIntoASlot() {
    Due due = sentences.about("Promise 7: again", "as they were put in (and by fail())");
    IssueTimes x = Rows.ofKinds(5);
    due.is("again(0, 1)", x.again(0, 1), 2);
    due.ofAll("in a slot now", x, 4, 0, 1);
    due.is("again(0, 2)", x.again(0, 2), 4);
    due.ofAll("once more", x, 4, 0, 1, 0, 1);
  }

  private static void againOfOneThatWasToldToFail() {
    Due due = sentences.about("Promise 7: again", "as they were put in (and by fail())");
    IssueTimes x = Rows.ofPlain(1);
    x.fail();
    due.is("again(0, 1)", x.again(0, 1), 2);
    due.ofAll("both fail", x, 4, 1, 1);
    x.clear();
    x.branch(2, false, 0, 0);
    x.fail();
    x.put(0, 0, 0, 0);
    due.is("again(0, 2)", x.again(0, 2), 4);
    due.ofAll("a branch told to fail", x, 4, 1, 0, 1, 0);
    due.ofAll("has no slot", x, 5, 0, 0, 0, 0);
  }

  private static void againOfUnreadableOnes() {
    Due due = sentences.about("Promise 7: again", "as they were put in (and by fail())");
    IssueTimes x = Rows.ofKinds(7);
    due.is("again(0, 1)", x.again(0, 1), 2);
    due.ofAll("kinds", x, 0, 7, 7);
    due.ofAll("fails", x, 4, 1, 1);
  }

  private static void failBehindAgainTouchesTheCopyAlone() {
    Due due = sentences.about("Promise 7: again", "come once more behind all");
    IssueTimes x = Rows.ofPlain(2);
    x.again(0, 2);
    x.fail();
    due.ofAll("the last copy fails", x, 4, 0, 0, 0, 1);
    x.drop(1);
    x.again(1, 1);
    due.ofAll("the one that came again does not", x, 4, 0, 0, 0, 0);
  }

  private static void newObjects() {
    aNewRowIsEmpty();
    theFirstCallOfANewObject();
    aNewRowIsItsOwn();
  }

  private static void puts() {
    thePutNumberIsFrom0To399();
    thePutNumberBehindThoseThatWent();
    aKindTooSmall();
    aKindTooLarge();
    aBranchIsNotPut();
    aPutRegisterTooSmall();
    aPutRegisterTooLarge();
    theLeastAndTheLastPutRegister();
    anUnreadableOneWithD();
    anUnreadableOneWithA();
    anUnreadableOneWithB();
    anUnreadableOneWithNone();
    putInAFullRow();
    putInARowOf399();
  }

  private static void branches() {
    foreseenTooSmall();
    foreseenTooLarge();
    aBranchRegisterTooSmall();
    aBranchRegisterTooLarge();
    theLeastAndTheLastBranchRegister();
    branchInAFullRow();
    branchInARowOf399();
    aBranchInASlotFails();
    aBranchBehindASlotDoesNotFail();
    aBranchInTheLastPlaceAndItsSlot();
  }

  private static void fails() {
    failWithoutOne();
    failOfTheOnlyOne();
    failOfTheLastOneAlone();
    failInAFullRow();
    failOfOneThatFailedByFail();
    failOfAnUnreadableOne();
    failOfABranchInASlot();
    failTakesTheSlotAway();
  }

  private static void drops() {
    dropOfNone();
    dropOfOne();
    dropOfAll();
    dropOfAFullRow();
    dropOfMoreThanThereAre();
    dropOfFewerThanNone();
    dropBetweenABranchAndItsSlot();
    dropOfOneThatFailed();
  }

  private static void clears() {
    clearOfAnEmptyRow();
    clearOfAFullRow();
    clearLeavesNothingBehind();
  }

  private static void agains() {
    againFromBelow0();
    againFromBehindTheLastOne();
    againOfDroppedOnes();
    againOfAnEmptyRow();
    againOfMoreThanThereAre();
    againWithASumThatWraps();
    againOfFewerThanOne();
    againOfAll();
    againOfTheLastOne();
    againOfTheFirstOne();
    againToJust400();
    againToMoreThan400();
    againOfABranchThatFailedByItsSlot();
    againOfABranchThatComesIntoASlot();
    againOfOneThatWasToldToFail();
    againOfUnreadableOnes();
    failBehindAgainTouchesTheCopyAlone();
  }

  public static void main(String[] args) {
    newObjects();
    puts();
    branches();
    fails();
    drops();
    clears();
    agains();
    sentences.end();
  }
}
