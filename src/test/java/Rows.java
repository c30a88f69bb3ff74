/** Rows of instructions that several tests begin with, and numbers that are none. */
final class Rows {
  static final int[] TOO_SMALL = {-1, -2, -32, Integer.MIN_VALUE};
  static final int[] NO_REGISTER_TOO_LARGE = {32, 33, 64, 256, Integer.MAX_VALUE};

  private Rows() {}

  static void plain(IssueTimes x, int n) {
    for (int k = 0; k < n; k++) {
      x.put(0, 0, 0, 0);
    }
  }

  static IssueTimes ofPlain(int n) {
    IssueTimes x = new IssueTimes();
    plain(x, n);
    return x;
  }

  /** One of each kind that is told, without registers; a BRANCH is rightly foreseen not to go. */
  static IssueTimes ofKinds(int... kinds) {
    IssueTimes x = new IssueTimes();
    for (int kind : kinds) {
      if (kind == 5) {
        x.branch(2, false, 0, 0);
      } else {
        x.put(kind, 0, 0, 0);
      }
    }
    return x;
  }

  /** 400 plain ones by few calls: an object has no more than 512. */
  static IssueTimes full() {
    IssueTimes x = ofPlain(25);
    x.again(0, 25);
    x.again(0, 50);
    x.again(0, 100);
    x.again(0, 200);
    return x;
  }
}
