/** Calls that are refused leave the row as it was, and the 512th call is still answered. */
public final class BoundaryCallTest {
  private static final Sentences sentences = new Sentences("BoundaryCallTest");

  private static final int EMPTY = 0;
  private static final int FEW = 1;
  private static final int BRANCH_LAST = 2;
  private static final int FULL = 3;
  private static final int STATES = 4;

  private interface Call {
    int on(IssueTimes x);
  }

  private static int number(boolean answer) {
    return answer ? 1 : 0;
  }

  private static IssueTimes row(int state) {
    IssueTimes x = new IssueTimes();
    if (state == EMPTY) {
      return x;
    }
    x.put(4, 1, 0, 0);
    x.put(1, 2, 0, 0);
    x.fail();
    x.branch(0, true, 3, 2);
    x.put(0, 4, 3, 1);
    x.put(3, 5, 4, 4);
    if (state == BRANCH_LAST) {
      x.branch(1, true, 0, 5);
    }
    if (state == FULL) {
      for (int n = 5; n < 400; n += n) {
        x.again(0, Math.min(n, 400 - n));
      }
    }
    return x;
  }

  private static void same(Due due, String call, IssueTimes got, IssueTimes want) {
    for (int which = 0; which < 7; which++) {
      due.is(call + ", then look(" + which + ")", got.look(which), want.look(which));
    }
    int n = want.look(0);
    for (int i = Math.max(0, n - 6); i < n; i++) {
      for (int what = 0; what < 5; what++) {
        due.is(call + ", then time(" + i + ", " + what + ")", got.time(i, what), want.time(i, what));
      }
      for (int what = 0; what < 8; what++) {
        due.is(call + ", then of(" + i + ", " + what + ")", got.of(i, what), want.of(i, what));
      }
    }
  }

  private static void goOn(IssueTimes x) {
    if (x.look(0) == 400) {
      x.drop(5);
    }
    x.put(0, 6, 5, 2);
    x.put(4, 7, 6, 0);
    x.again(0, 2);
  }

  /** The call answers want; and a row with it and one without it are not told apart. */
  private static void refused(Due due, int state, String call, int want, Call refused) {
    IssueTimes x = row(state);
    IssueTimes y = row(state);
    String name = call + " in state " + state;
    due.is(name, refused.on(x), want);
    same(due, name, x, y);
    goOn(x);
    goOn(y);
    same(due, name + " and more", x, y);
  }

  private static void refused(int state, String call, int want, Call refused) {
    refused(sentences.about("Terms", "What answers false or NONE changes nothing."),
        state, call, want, refused);
  }

  private static void refusedPut() {
    for (int state = 0; state < STATES; state++) {
      refused(state, "put(-1, 1, 2, 3)", -1, x -> x.put(-1, 1, 2, 3));
      refused(state, "put(5, 1, 2, 3)", -1, x -> x.put(5, 1, 2, 3));
      refused(state, "put(8, 1, 2, 3)", -1, x -> x.put(8, 1, 2, 3));
      refused(state, "put(0, -1, 2, 3)", -1, x -> x.put(0, -1, 2, 3));
      refused(state, "put(0, 32, 2, 3)", -1, x -> x.put(0, 32, 2, 3));
      refused(state, "put(0, 1, -1, 3)", -1, x -> x.put(0, 1, -1, 3));
      refused(state, "put(0, 1, 32, 3)", -1, x -> x.put(0, 1, 32, 3));
      refused(state, "put(0, 1, 2, -1)", -1, x -> x.put(0, 1, 2, -1));
      refused(state, "put(0, 1, 2, 32)", -1, x -> x.put(0, 1, 2, 32));
      refused(state, "put(7, 1, 0, 0)", -1, x -> x.put(7, 1, 0, 0));
      refused(state, "put(7, 0, 1, 0)", -1, x -> x.put(7, 0, 1, 0));
      refused(state, "put(7, 0, 0, 1)", -1, x -> x.put(7, 0, 0, 1));
    }
    refused(FULL, "put(0, 1, 2, 3)", -1, x -> x.put(0, 1, 2, 3));
    refused(FULL, "put(7, 0, 0, 0)", -1, x -> x.put(7, 0, 0, 0));
  }

  private static void refusedBranch() {
    for (int state = 0; state < STATES; state++) {
      refused(state, "branch(-1, true, 1, 2)", -1, x -> x.branch(-1, true, 1, 2));
      refused(state, "branch(3, true, 1, 2)", -1, x -> x.branch(3, true, 1, 2));
      refused(state, "branch(1, true, -1, 2)", -1, x -> x.branch(1, true, -1, 2));
      refused(state, "branch(1, true, 32, 2)", -1, x -> x.branch(1, true, 32, 2));
      refused(state, "branch(1, true, 1, -1)", -1, x -> x.branch(1, true, 1, -1));
      refused(state, "branch(1, true, 1, 32)", -1, x -> x.branch(1, true, 1, 32));
    }
    refused(FULL, "branch(1, true, 1, 2)", -1, x -> x.branch(1, true, 1, 2));
  }

  private static void refusedFail() {
    refused(EMPTY, "fail()", 0, x -> number(x.fail()));
  }

  private static void refusedDrop() {
    for (int state = 0; state < STATES; state++) {
      refused(state, "drop(-1)", 0, x -> number(x.drop(-1)));
      refused(state, "drop(least)", 0, x -> number(x.drop(Integer.MIN_VALUE)));
      refused(state, "drop of one too many", 0, x -> number(x.drop(x.look(0) + 1)));
      refused(state, "drop(most)", 0, x -> number(x.drop(Integer.MAX_VALUE)));
    }
  }

  private static void refusedAgain() {
    for (int state = 0; state < STATES; state++) {
      refused(state, "again(-1, 1)", -1, x -> x.again(-1, 1));
      refused(state, "again(0, 0)", -1, x -> x.again(0, 0));
      refused(state, "again(0, -1)", -1, x -> x.again(0, -1));
      refused(state, "again behind the last one", -1, x -> x.again(x.look(0), 1));
      refused(state, "again of one too many", -1, x -> x.again(0, x.look(0) + 1));
      refused(state, "again(0, most)", -1, x -> x.again(0, Integer.MAX_VALUE));
      refused(state, "again(most, 1)", -1, x -> x.again(Integer.MAX_VALUE, 1));
    }
    refused(FEW, "again(4, 2)", -1, x -> x.again(4, 2));
    refused(FULL, "again(0, 1)", -1, x -> x.again(0, 1));
    refused(FULL, "again(0, 400)", -1, x -> x.again(0, 400));
  }

  /** Part of them would have had a place, but none may come. */
  private static void refusedAgainNearlyFull() {
    Due due = sentences.about("Terms", "What answers false or NONE changes nothing.");
    IssueTimes x = row(FULL);
    IssueTimes y = row(FULL);
    x.drop(3);
    y.drop(3);
    due.is("again(0, 4) of 397", x.again(0, 4), -1);
    same(due, "again(0, 4) of 397", x, y);
    due.is("again(0, 3) of 397", x.again(0, 3), 400);
  }

  private static void refusedTime() {
    for (int state = 0; state < STATES; state++) {
      refused(state, "time(-1, 0)", -1, x -> x.time(-1, 0));
      refused(state, "time behind the last one", -1, x -> x.time(x.look(0), 0));
      refused(state, "time(0, -1)", -1, x -> x.time(0, -1));
      refused(state, "time(0, 5)", -1, x -> x.time(0, 5));
    }
  }

  private static void refusedOf() {
    for (int state = 0; state < STATES; state++) {
      refused(state, "of(-1, 0)", -1, x -> x.of(-1, 0));
      refused(state, "of behind the last one", -1, x -> x.of(x.look(0), 0));
      refused(state, "of(0, -1)", -1, x -> x.of(0, -1));
      refused(state, "of(0, 8)", -1, x -> x.of(0, 8));
    }
  }

  private static void refusedStage() {
    for (int state = 0; state < STATES; state++) {
      refused(state, "stage(-1, 0)", -1, x -> x.stage(-1, 0));
      refused(state, "stage behind the last one", -1, x -> x.stage(x.look(0), 0));
      refused(state, "stage(0, -1)", -1, x -> x.stage(0, -1));
    }
  }

  private static void refusedMany() {
    for (int state = 0; state < STATES; state++) {
      refused(state, "many(-1, 0)", -1, x -> x.many(-1, 0));
      refused(state, "many(4, 0)", -1, x -> x.many(4, 0));
      refused(state, "many(0, -1)", -1, x -> x.many(0, -1));
    }
  }

  private static void refusedLook() {
    for (int state = 0; state < STATES; state++) {
      refused(state, "look(-1)", -1, x -> x.look(-1));
      refused(state, "look(7)", -1, x -> x.look(7));
    }
  }

  /** Three plain ones in the row, and 511 calls made. */
  private static IssueTimes usedFor511Calls() {
    IssueTimes x = Rows.ofPlain(3);
    for (int k = 0; k < 254; k++) {
      x.put(1 + k % 4, k % 32, 0, 0);
      x.drop(1);
    }
    return x;
  }

  private static void the512thCall(String call, int want, Call last) {
    Due due = sentences.about("What it is",
        "An object is used for at most 512 calls after it has been made");
    due.is("the 512th call: " + call, last.on(usedFor511Calls()), want);
  }

  private static void everyCallAsThe512th() {
    the512thCall("put(0, 0, 0, 0)", 3, x -> x.put(0, 0, 0, 0));
    the512thCall("put(8, 0, 0, 0)", -1, x -> x.put(8, 0, 0, 0));
    the512thCall("branch(0, true, 0, 0)", 3, x -> x.branch(0, true, 0, 0));
    the512thCall("fail()", 1, x -> number(x.fail()));
    the512thCall("drop(3)", 1, x -> number(x.drop(3)));
    the512thCall("drop(4)", 0, x -> number(x.drop(4)));
    the512thCall("again(0, 3)", 6, x -> x.again(0, 3));
    the512thCall("time(2, 2)", 7, x -> x.time(2, 2));
    the512thCall("of(2, 7)", 1, x -> x.of(2, 7));
    the512thCall("stage(2, 4)", 2, x -> x.stage(2, 4));
    the512thCall("many(1, 2)", 3, x -> x.many(1, 2));
    the512thCall("look(1)", 7, x -> x.look(1));
  }

  private static void anObjectThatIsFilledAndReadTo512() {
    Due due = sentences.about("What it is",
        "An object is used for at most 512 calls after it has been made");
    IssueTimes x = new IssueTimes();
    for (int call = 0; call < 400; call++) {
      due.is("put number " + call, x.put(0, 0, 0, 0), call);
    }
    for (int call = 400; call < 512; call++) {
      due.is("call " + (call + 1) + ": time", x.time(call - 112, 1), 3 + (call - 112) / 2);
    }
  }

  private static void theDearestCallsTo512() {
    Due due = sentences.about("What it is",
        "An object is used for at most 512 calls after it has been made");
    IssueTimes x = Rows.full();
    for (int call = 29; call < 511; call += 2) {
      due.is("call " + (call + 1) + ": drop(200)", x.drop(200), true);
      due.is("call " + (call + 2) + ": again(0, 200)", x.again(0, 200), 400);
    }
    due.is("call 512: look(6)", x.look(6), 6);
  }

  public static void main(String[] args) {
    refusedPut();
    refusedBranch();
    refusedFail();
    refusedDrop();
    refusedAgain();
    refusedAgainNearlyFull();
    refusedTime();
    refusedOf();
    refusedStage();
    refusedMany();
    refusedLook();
    everyCallAsThe512th();
    anObjectThatIsFilledAndReadTo512();
    theDearestCallsTo512();
    sentences.end();
  }
}
