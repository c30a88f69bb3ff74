/** Promises 1 to 7: what the calls that change the row answer and do. */
public final class RowTest {
  private static final Due due = new Due();
  private static final int[] NO_REGISTERS = {-1, 32, Integer.MIN_VALUE, Integer.MAX_VALUE};

  private static IssueTimes full() {
    IssueTimes x = new IssueTimes();
    for (int i = 0; i < 400; i++) {
      due.is("put number " + i, x.put(0, 0, 0, 0), i);
    }
    return x;
  }

  private static void newObjectIsEmpty() {
    IssueTimes x = new IssueTimes();
    for (int which = 0; which < 7; which++) {
      due.is("new: look(" + which + ")", x.look(which), 0);
    }
    due.is("new: time(0, 0)", x.time(0, 0), -1);
    due.is("new: of(0, 0)", x.of(0, 0), -1);
    due.is("new: stage(0, 0)", x.stage(0, 0), -1);
    due.is("new: many(0, 0)", x.many(0, 0), 0);
    IssueTimes y = new IssueTimes();
    y.put(0, 0, 0, 0);
    due.is("another object's row", x.look(0), 0);
  }

  private static void putTakesEveryKindButBranch() {
    IssueTimes x = new IssueTimes();
    int number = 0;
    for (int kind = 0; kind < 8; kind++) {
      int d = kind == 7 ? 0 : 31;
      int a = kind == 7 ? 0 : 30;
      int b = kind == 7 ? 0 : 29;
      due.is("put of kind " + kind, x.put(kind, d, a, b), kind == 5 ? -1 : number);
      if (kind != 5) {
        due.is("kind " + kind, x.of(number, 0), kind);
        due.is("D of kind " + kind, x.of(number, 1), d);
        due.is("A of kind " + kind, x.of(number, 2), a);
        due.is("B of kind " + kind, x.of(number, 3), b);
        number++;
      }
    }
    due.is("look(0)", x.look(0), 7);
  }

  private static void putRefuses() {
    IssueTimes x = new IssueTimes();
    x.put(0, 1, 2, 3);
    for (int kind : new int[] {-1, 5, 8, Integer.MIN_VALUE, Integer.MAX_VALUE}) {
      due.is("put of kind " + kind, x.put(kind, 0, 0, 0), -1);
    }
    for (int r : NO_REGISTERS) {
      due.is("put with D " + r, x.put(0, r, 0, 0), -1);
      due.is("put with A " + r, x.put(0, 0, r, 0), -1);
      due.is("put with B " + r, x.put(0, 0, 0, r), -1);
    }
    due.is("unreadable with D", x.put(7, 1, 0, 0), -1);
    due.is("unreadable with A", x.put(7, 0, 1, 0), -1);
    due.is("unreadable with B", x.put(7, 0, 0, 1), -1);
    due.is("nothing came", x.look(0), 1);
    due.is("the next number", x.put(7, 0, 0, 0), 1);
  }

  private static void branchTakesAndRefuses() {
    IssueTimes x = new IssueTimes();
    due.is("not foreseen", x.branch(0, true, 31, 30), 0);
    due.is("its kind", x.of(0, 0), 5);
    due.is("its D", x.of(0, 1), 31);
    due.is("its A", x.of(0, 2), 30);
    due.is("its B", x.of(0, 3), 0);
    x.put(0, 0, 0, 0);
    due.is("foreseen to go", x.branch(1, false, 0, 0), 2);
    x.put(0, 0, 0, 0);
    due.is("foreseen not to go", x.branch(2, false, 0, 0), 4);
    for (int foreseen : new int[] {-1, 3, Integer.MIN_VALUE, Integer.MAX_VALUE}) {
      due.is("foreseen " + foreseen, x.branch(foreseen, true, 0, 0), -1);
    }
    for (int r : NO_REGISTERS) {
      due.is("branch with D " + r, x.branch(0, true, r, 0), -1);
      due.is("branch with A " + r, x.branch(0, true, 0, r), -1);
    }
    due.is("nothing came", x.look(0), 5);
  }

  private static void branchInSlotFails() {
    IssueTimes x = new IssueTimes();
    for (int i = 0; i < 399; i++) {
      x.branch(i % 3, i % 2 == 0, 0, 0);
    }
    for (int i = 0; i < 399; i++) {
      due.is("a row of branches: of(" + i + ", 4)", x.of(i, 4), i % 2);
      due.is("a row of branches: of(" + i + ", 5)", x.of(i, 5), i % 2);
    }
  }

  private static void rowHolds400() {
    IssueTimes x = full();
    due.is("put number 400", x.put(0, 0, 0, 0), -1);
    due.is("branch number 400", x.branch(0, true, 0, 0), -1);
    due.is("look(0)", x.look(0), 400);
    due.is("fail() of a full row", x.fail(), true);
    due.is("of(399, 4)", x.of(399, 4), 1);
    due.is("drop(1)", x.drop(1), true);
    due.is("branch number 399", x.branch(0, true, 0, 0), 399);
  }

  private static void failMakesTheLastOneFail() {
    IssueTimes x = new IssueTimes();
    due.is("fail() of none", x.fail(), false);
    x.put(0, 0, 0, 0);
    x.put(0, 0, 0, 0);
    due.is("fail()", x.fail(), true);
    due.is("fail() once more", x.fail(), true);
    due.ofAll("fail()", x, 4, 0, 1);
    due.times("fail()", x, 1, 3, 6, 1, 3, 7);
    x.put(7, 0, 0, 0);
    due.is("fail() of an unreadable one", x.fail(), true);
    x.drop(2);
    due.is("fail() behind drop", x.fail(), true);
    due.ofAll("fail() behind drop", x, 4, 1);
    x.drop(1);
    due.is("fail() behind the last drop", x.fail(), false);
    x.put(0, 0, 0, 0);
    due.ofAll("one put where a failing one was", x, 4, 0);
  }

  private static void dropTakesTheLastOnes() {
    IssueTimes x = new IssueTimes();
    due.is("drop(0) of none", x.drop(0), true);
    due.is("drop(1) of none", x.drop(1), false);
    for (int kind = 0; kind < 5; kind++) {
      x.put(kind, kind, 0, 0);
    }
    for (int n : new int[] {-1, 6, Integer.MIN_VALUE, Integer.MAX_VALUE}) {
      due.is("drop(" + n + ") of five", x.drop(n), false);
    }
    due.is("drop(0)", x.drop(0), true);
    due.ofAll("drop(0)", x, 0, 0, 1, 2, 3, 4);
    due.is("drop(2)", x.drop(2), true);
    due.ofAll("drop(2)", x, 0, 0, 1, 2);
    due.is("time of a dropped one", x.time(3, 0), -1);
    due.is("drop(3)", x.drop(3), true);
    due.is("look(0)", x.look(0), 0);
  }

  // What stood in the row before must not show in what comes in its place.
  private static void placesAreUsedAnew() {
    for (int way = 0; way < 2; way++) {
      IssueTimes x = new IssueTimes();
      x.branch(0, true, 1, 0);
      x.put(4, 2, 1, 1);
      x.fail();
      x.put(6, 3, 2, 2);
      if (way == 0) {
        x.clear();
      } else {
        x.drop(3);
      }
      due.is("look(0)", x.look(0), 0);
      due.is("look(1)", x.look(1), 0);
      due.is("time(0, 0)", x.time(0, 0), -1);
      due.is("put", x.put(0, 0, 1, 2), 0);
      x.put(0, 0, 2, 3);
      x.put(0, 0, 3, 1);
      due.times("behind what has gone", x, 1, 3, 6, 1, 3, 6, 2, 4, 7);
      due.ofAll("behind what has gone", x, 4, 0, 0, 0);
      due.ofAll("behind what has gone", x, 5, 0, 0, 0);
      due.ofAll("behind what has gone", x, 6, 0, 0, 0);
      due.ofAll("behind what has gone", x, 7, 0, 1, 1);
    }
    IssueTimes empty = new IssueTimes();
    empty.clear();
    due.is("clear of none", empty.look(0), 0);
  }

  private static void againBringsThemOnceMore() {
    IssueTimes x = new IssueTimes();
    x.put(1, 1, 2, 3);
    x.put(7, 0, 0, 0);
    x.put(3, 4, 5, 6);
    x.fail();
    x.branch(1, false, 7, 8);
    due.is("again(0, 4)", x.again(0, 4), 8);
    due.ofAll("again", x, 0, 1, 7, 3, 5, 1, 7, 3, 5);
    due.ofAll("again", x, 1, 1, 0, 4, 7, 1, 0, 4, 7);
    due.ofAll("again", x, 2, 2, 0, 5, 8, 2, 0, 5, 8);
    due.ofAll("again", x, 3, 3, 0, 6, 0, 3, 0, 6, 0);
    due.ofAll("again", x, 4, 0, 1, 1, 0, 0, 1, 1, 0);
    due.ofAll("again: in the slot of the last one", x, 5, 0, 0, 0, 0, 1, 0, 0, 0);
    due.is("again(3, 2)", x.again(3, 2), 10);
    due.ofAll("a branch comes into a slot", x, 4, 0, 1, 1, 0, 0, 1, 1, 0, 1, 0);
    x.drop(2);
    due.is("a part of one", x.again(5, 1), 9);
    due.is("its kind", x.of(8, 0), 7);
  }

  private static void againKeepsForesight() {
    for (int foreseen = 0; foreseen < 3; foreseen++) {
      for (int goes = 0; goes < 2; goes++) {
        IssueTimes x = new IssueTimes();
        x.branch(foreseen, goes == 1, 0, 0);
        x.put(0, 0, 0, 0);
        x.put(0, 0, 0, 0);
        x.again(0, 3);
        due.is("redirected by the copy of " + foreseen + goes, x.of(5, 6), x.of(2, 6));
        due.is("behind the copy of " + foreseen + goes, x.of(5, 7), x.of(2, 7));
      }
    }
  }

  private static void againForgetsFailingBySlot() {
    IssueTimes x = new IssueTimes();
    x.branch(1, true, 0, 0);
    x.branch(1, true, 0, 0);
    x.put(0, 0, 0, 0);
    x.again(1, 1);
    due.ofAll("failed by the slot alone", x, 4, 0, 1, 0, 0);
    due.is("the next one is in its slot", x.put(0, 0, 0, 0), 4);
    due.is("of(4, 5)", x.of(4, 5), 1);
    x.clear();
    x.branch(1, true, 0, 0);
    x.branch(1, true, 0, 0);
    x.fail();
    x.put(0, 0, 0, 0);
    x.again(1, 1);
    due.ofAll("failed by fail() too", x, 4, 0, 1, 0, 1);
  }

  private static void againRefuses() {
    IssueTimes x = new IssueTimes();
    due.is("again(0, 1) of none", x.again(0, 1), -1);
    for (int k = 0; k < 3; k++) {
      x.put(k, 0, 0, 0);
    }
    int[][] wrong = {{-1, 1}, {3, 1}, {0, 0}, {0, -1}, {0, 4}, {1, 3}, {2, 2}, {-1, 2},
        {0, Integer.MAX_VALUE}, {1, Integer.MAX_VALUE}, {2, Integer.MAX_VALUE},
        {Integer.MAX_VALUE, 1}, {Integer.MAX_VALUE, Integer.MAX_VALUE}, {Integer.MIN_VALUE, 1},
        {Integer.MIN_VALUE, Integer.MIN_VALUE}, {0, Integer.MIN_VALUE}};
    for (int[] w : wrong) {
      due.is("again(" + w[0] + ", " + w[1] + ") of three", x.again(w[0], w[1]), -1);
    }
    due.ofAll("nothing came", x, 0, 0, 1, 2);
    due.is("again(2, 1)", x.again(2, 1), 4);
    due.is("again(0, 4)", x.again(0, 4), 8);
  }

  private static void againKeepsTo400() {
    IssueTimes x = full();
    due.is("again of a full row", x.again(0, 1), -1);
    x.drop(200);
    due.is("again to 400", x.again(0, 200), 400);
    x.drop(199);
    due.is("again to 402", x.again(0, 201), -1);
    due.is("again to 401", x.again(0, 200), -1);
    due.is("nothing came", x.look(0), 201);
    due.is("again to 400 once more", x.again(2, 199), 400);
  }

  public static void main(String[] args) {
    newObjectIsEmpty();
    putTakesEveryKindButBranch();
    putRefuses();
    branchTakesAndRefuses();
    branchInSlotFails();
    rowHolds400();
    failMakesTheLastOneFail();
    dropTakesTheLastOnes();
    placesAreUsedAnew();
    againBringsThemOnceMore();
    againKeepsForesight();
    againForgetsFailingBySlot();
    againRefuses();
    againKeepsTo400();
    due.end("RowTest");
  }
}
