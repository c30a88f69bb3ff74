import java.util.ArrayList;
import java.util.List;

/**
 * The document's terms written down as conditions, with every time found by trying 1, 2, 3, .. until
 * all conditions hold. It is slow and shares no way of reckoning with IssueTimes.
 */
final class Model {
  static final class Instruction {
    int kind;
    int d;
    int a;
    int b;
    int foreseen;
    boolean goes;
    boolean failedByCall;
    int f;
    int t;
    int c;
    boolean second;

    Instruction copy() {
      Instruction o = new Instruction();
      o.kind = kind;
      o.d = d;
      o.a = a;
      o.b = b;
      o.foreseen = foreseen;
      o.goes = goes;
      o.failedByCall = failedByCall;
      return o;
    }
  }

  private final List<Instruction> row = new ArrayList<>();
  // fails.get(i): found from the front on, so that long rows of branches need no deep recursion.
  private final List<Boolean> fails = new ArrayList<>();
  private int settled = 0;

  private static boolean noRegister(int r) {
    return r < 0 || r > 31;
  }

  int put(int kind, int d, int a, int b) {
    boolean wrongKind = kind < 0 || kind == 5 || kind > 7;
    boolean wrongRegisters = noRegister(d) || noRegister(a) || noRegister(b);
    if (wrongKind || wrongRegisters || (kind == 7 && (d | a | b) != 0) || row.size() == 400) {
      return -1;
    }
    Instruction o = new Instruction();
    o.kind = kind;
    o.d = d;
    o.a = a;
    o.b = b;
    row.add(o);
    return row.size() - 1;
  }

  int branch(int foreseen, boolean goes, int d, int a) {
    if (foreseen < 0 || foreseen > 2 || noRegister(d) || noRegister(a) || row.size() == 400) {
      return -1;
    }
    Instruction o = new Instruction();
    o.kind = 5;
    o.d = d;
    o.a = a;
    o.foreseen = foreseen;
    o.goes = goes;
    row.add(o);
    return row.size() - 1;
  }

  boolean fail() {
    if (row.isEmpty()) {
      return false;
    }
    row.get(row.size() - 1).failedByCall = true;
    settled = Math.min(settled, row.size() - 1);
    return true;
  }

  boolean drop(int n) {
    if (n < 0 || n > row.size()) {
      return false;
    }
    for (int k = 0; k < n; k++) {
      row.remove(row.size() - 1);
    }
    settled = Math.min(settled, row.size());
    return true;
  }

  void clear() {
    row.clear();
    settled = 0;
  }

  int again(int i, int n) {
    if (i < 0 || n < 1 || (long) i + n > row.size() || (long) row.size() + n > 400) {
      return -1;
    }
    for (Instruction o : new ArrayList<>(row.subList(i, i + n))) {
      row.add(o.copy());
    }
    return row.size();
  }

  private boolean fails(int i) {
    return fails.get(i);
  }

  private boolean slot(int i) {
    return i >= 1 && row.get(i - 1).kind == 5 && !fails(i - 1);
  }

  private boolean behind(int i) {
    if (i == 0 || fails(i - 1)) {
      return false;
    }
    return !(slot(i - 1) && row.get(i - 2).goes);
  }

  private boolean redirectedByOneAhead(int i) {
    return i >= 1 && (fails(i - 1) || row.get(i - 1).kind == 6);
  }

  private boolean redirectedByBranch(int i) {
    if (i < 2 || !slot(i - 1)) {
      return false;
    }
    Instruction branch = row.get(i - 2);
    switch (branch.foreseen) {
      case 1:
        return !branch.goes;
      case 2:
        return branch.goes;
      default:
        return true;
    }
  }

  private boolean redirected(int i) {
    return redirectedByOneAhead(i) || redirectedByBranch(i);
  }

  private void settle() {
    while (fails.size() > settled) {
      fails.remove(fails.size() - 1);
    }
    for (int i = settled; i < row.size(); i++) {
      Instruction o = row.get(i);
      fails.add(o.failedByCall || o.kind == 7 || (o.kind == 5 && slot(i)));
      boolean sharesGroup = i > 0 && !row.get(i - 1).second && behind(i) && !redirected(i)
          && !(slot(i - 1) && row.get(i - 2).foreseen == 1);
      o.second = sharesGroup;
      o.f = 1;
      while (!fetchHolds(i, o.f)) {
        o.f++;
      }
      o.t = 1;
      while (!issueHolds(i, o.t)) {
        o.t++;
      }
      o.c = 1;
      while (!doneHolds(i, o.c)) {
        o.c++;
      }
    }
    settled = row.size();
  }

  private boolean fetchHolds(int i, int f) {
    if (row.get(i).second) {
      return f == row.get(i - 1).f;
    }
    if (i >= 1 && !(f > row.get(i - 1).f)) {
      return false;
    }
    if (i >= 5 && !(f > row.get(i - 5).t)) {
      return false;
    }
    if (redirectedByOneAhead(i) && !(f > row.get(i - 1).c)) {
      return false;
    }
    return !redirectedByBranch(i) || f >= row.get(i - 2).t + 2;
  }

  private boolean pair(int i, int j) {
    int k = row.get(i).kind;
    int m = row.get(j).kind;
    int d = row.get(i).d;
    boolean bothMemory = (k == 1 || k == 2) && (m == 1 || m == 2);
    boolean bothMultiply = (k == 3 || k == 4) && (m == 3 || m == 4);
    boolean reads = d != 0 && (row.get(j).a == d || row.get(j).b == d);
    return k != 6 && m != 6 && k != 5 && !bothMemory && !bothMultiply && !reads;
  }

  private boolean readHolds(int i, int register, int t) {
    Instruction writer = null;
    for (int k = 0; k < i; k++) {
      if (register != 0 && row.get(k).d == register && !fails(k)) {
        writer = row.get(k);
      }
    }
    int[] delays = {1, 2, 1, 3, 18, 1, 1, 1};
    return writer == null || t >= writer.t + delays[writer.kind];
  }

  private boolean issueHolds(int i, int t) {
    Instruction o = row.get(i);
    if (t < o.f + 2) {
      return false;
    }
    if (i >= 1 && t < row.get(i - 1).t) {
      return false;
    }
    if (i >= 1 && t == row.get(i - 1).t) {
      boolean third = i >= 2 && row.get(i - 2).t >= t;
      if (third || !pair(i - 1, i)) {
        return false;
      }
    }
    if (!readHolds(i, o.a, t) || !readHolds(i, o.b, t)) {
      return false;
    }
    for (int k = 0; k < i; k++) {
      if (o.kind == 4 && row.get(k).kind == 4 && t < row.get(k).t + 18) {
        return false;
      }
    }
    return o.kind != 6 || i == 0 || t > row.get(i - 1).c;
  }

  private boolean doneHolds(int i, int c) {
    Instruction o = row.get(i);
    int work = o.kind == 4 ? 20 : o.kind == 3 ? 5 : 3;
    if (c < o.t + work) {
      return false;
    }
    if (i >= 1 && c < row.get(i - 1).c) {
      return false;
    }
    if (i >= 2 && c <= row.get(i - 2).c) {
      return false;
    }
    return !(fails(i) && i >= 1 && c <= row.get(i - 1).c);
  }

  int time(int i, int what) {
    if (i < 0 || i >= row.size() || what < 0 || what > 4) {
      return -1;
    }
    settle();
    Instruction o = row.get(i);
    boolean follower = i + 1 < row.size() && row.get(i + 1).second;
    boolean atOnce = i > 0 && pair(i - 1, i) && row.get(i - 1).t == o.t;
    int[] answers = {o.f, o.t, o.c, o.second || follower ? 2 : 1, atOnce ? 1 : 0};
    return answers[what];
  }

  int of(int i, int what) {
    if (i < 0 || i >= row.size() || what < 0 || what > 7) {
      return -1;
    }
    settle();
    Instruction o = row.get(i);
    int[] answers = {o.kind, o.d, o.a, o.b, fails(i) ? 1 : 0, slot(i) ? 1 : 0,
        redirected(i) ? 1 : 0, behind(i) ? 1 : 0};
    return answers[what];
  }

  int stage(int i, int cycle) {
    if (i < 0 || i >= row.size() || cycle < 0) {
      return -1;
    }
    settle();
    Instruction o = row.get(i);
    return (cycle >= o.f ? 1 : 0) + (cycle >= o.t ? 1 : 0) + (cycle >= o.c ? 1 : 0);
  }

  int many(int stage, int cycle) {
    if (stage < 0 || stage > 3 || cycle < 0) {
      return -1;
    }
    int found = 0;
    for (int i = 0; i < row.size(); i++) {
      found += stage(i, cycle) == stage ? 1 : 0;
    }
    return found;
  }

  int look(int which) {
    settle();
    int size = row.size();
    int last = size == 0 ? 0 : row.get(size - 1).c;
    int[] doneIn = new int[last + 1];
    int groups = 0;
    int pairs = 0;
    for (int i = 0; i < size; i++) {
      doneIn[row.get(i).c]++;
      groups += row.get(i).second ? 0 : 1;
      pairs += time(i, 4);
    }
    int twos = 0;
    int longest = 0;
    int before = 0;
    int most = 0;
    for (int cycle = 0; cycle <= last; cycle++) {
      twos += doneIn[cycle] == 2 ? 1 : 0;
      if (doneIn[cycle] > 0) {
        longest = Math.max(longest, cycle - before);
        before = cycle;
      }
      if (which == 6) {
        most = Math.max(most, many(2, cycle));
      }
    }
    int[] answers = {size, last, twos, longest, groups, pairs, most};
    return which < 0 || which > 6 ? -1 : answers[which];
  }
}
