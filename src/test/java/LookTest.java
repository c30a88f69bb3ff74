/** Promise 12: what is seen of the whole row. */
public final class LookTest {
  private static final Due due = new Due();

  private static void looks(String row, IssueTimes x, int... want) {
    for (int which = 0; which < want.length; which++) {
      due.is(row + ": look(" + which + ")", x.look(which), want[which]);
    }
    for (int which : new int[] {-1, 7, 8, Integer.MIN_VALUE, Integer.MAX_VALUE}) {
      due.is(row + ": look(" + which + ")", x.look(which), -1);
    }
  }

  private static void plain(IssueTimes x, int n) {
    for (int k = 0; k < n; k++) {
      x.put(0, 0, 0, 0);
    }
  }

  public static void main(String[] args) {
    IssueTimes x = new IssueTimes();
    looks("none", x, 0, 0, 0, 0, 0, 0, 0);
    plain(x, 1);
    looks("one", x, 1, 6, 0, 6, 1, 0, 1);
    plain(x, 1);
    looks("two", x, 2, 6, 1, 6, 1, 1, 2);
    // T 3, 3, 4, 4, 5, 5, 6, 6; C 6, 6, 7, 7, 8, 8, 9, 9: those done in a cycle work no more in it.
    plain(x, 6);
    looks("eight", x, 8, 9, 4, 6, 4, 4, 6);
    x.drop(6);
    looks("two once more", x, 2, 6, 1, 6, 1, 1, 2);
    x.drop(1);
    looks("one once more", x, 1, 6, 0, 6, 1, 0, 1);

    // T 3, 3, 4, 4, 5; C 23, 23, 24, 24, 25.
    x.clear();
    x.put(4, 0, 0, 0);
    plain(x, 4);
    looks("behind a divide", x, 5, 25, 2, 23, 3, 2, 5);

    // T 3, 3, 4; C 6, 23, 23: the longest way lies inside, two are done that were issued apart.
    x.clear();
    x.put(0, 0, 0, 0);
    x.put(4, 0, 0, 0);
    x.put(0, 0, 0, 0);
    looks("a divide inside", x, 3, 23, 1, 17, 2, 1, 3);

    // F 1, 7, 7; T 3, 9, 9; C 6, 12, 13: none but the pair works with another.
    x.clear();
    x.put(6, 0, 0, 0);
    x.put(0, 0, 0, 0);
    x.put(7, 0, 0, 0);
    looks("single and unreadable", x, 3, 13, 0, 6, 2, 1, 2);

    x.clear();
    plain(x, 200);
    x.again(0, 200);
    looks("a full row", x, 400, 205, 200, 6, 200, 200, 6);
    due.end("LookTest");
  }
}
