/** Counts and prints the answers that are not the ones that are due. */
final class Due {
  private int wrong = 0;
  private String head = "";

  /** What is printed ahead of every wrong answer from here on. */
  void under(String newHead) {
    head = newHead;
  }

  void is(String call, int got, int want) {
    if (got != want) {
      wrong++;
      System.out.println(head + call + " answered " + got + ", due is " + want);
    }
  }

  void is(String call, boolean got, boolean want) {
    is(call, got ? 1 : 0, want ? 1 : 0);
  }

  /** F, T and C of every instruction from 0 on, three numbers each. */
  void times(String row, IssueTimes x, int... want) {
    is(row + ": look(0)", x.look(0), want.length / 3);
    for (int k = 0; k < want.length; k++) {
      is(row + ": time(" + k / 3 + ", " + k % 3 + ")", x.time(k / 3, k % 3), want[k]);
    }
  }

  /** One number of time() for every instruction from 0 on. */
  void timeOfAll(String row, IssueTimes x, int what, int... want) {
    is(row + ": look(0)", x.look(0), want.length);
    for (int i = 0; i < want.length; i++) {
      is(row + ": time(" + i + ", " + what + ")", x.time(i, what), want[i]);
    }
  }

  /** One number of of() for every instruction from 0 on. */
  void ofAll(String row, IssueTimes x, int what, int... want) {
    is(row + ": look(0)", x.look(0), want.length);
    for (int i = 0; i < want.length; i++) {
      is(row + ": of(" + i + ", " + what + ")", x.of(i, what), want[i]);
    }
  }

  void end(String test) {
    System.out.println(wrong == 0 ? test + ": all as due" : test + ": " + wrong + " not as due");
    if (wrong != 0) {
      System.exit(1);
    }
  }
}
