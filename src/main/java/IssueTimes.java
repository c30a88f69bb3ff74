/**
 * When instructions are fetched, issued and done by a machine that issues up to two a cycle, in
 * order. All that is known of an instruction follows from it and from those ahead of it, so it is
 * settled once, when it comes; taking the last ones away leaves the others as they are.
 */
public final class IssueTimes {
  public static final int NONE = -1;

  private static final int MOST_INSTRUCTIONS = 400;
  private static final int LAST_REGISTER = 31;
  private static final int QUEUE_LENGTH = 5;
  private static final int DIVIDE_DELAY = 18;

  private static final int LOAD = 1;
  private static final int STORE = 2;
  private static final int MULTIPLY = 3;
  private static final int DIVIDE = 4;
  private static final int BRANCH = 5;
  private static final int SINGLE = 6;
  private static final int UNREADABLE = 7;

  private static final int NOT_FORESEEN = 0;
  private static final int FORESEEN_TO_GO = 1;
  private static final int FORESEEN_NOT_TO_GO = 2;

  private static final int WAITING = 0;
  private static final int QUEUED = 1;
  private static final int AT_WORK = 2;
  private static final int DONE = 3;

  private int count;

  private final int[] kinds;
  private final int[] writes;
  private final int[] firstReads;
  private final int[] secondReads;
  private final int[] foresights;
  private final boolean[] goings;
  // Only what fail() said: a branch that fails by its slot alone may come again elsewhere unfailed.
  private final boolean[] toldToFail;

  private final boolean[] inSlot;
  private final boolean[] failing;
  private final boolean[] beginsGroup;
  private final int[] fetchTimes;
  private final int[] issueTimes;
  private final int[] doneTimes;

  public IssueTimes() {
    count = 0;
    kinds = new int[MOST_INSTRUCTIONS];
    writes = new int[MOST_INSTRUCTIONS];
    firstReads = new int[MOST_INSTRUCTIONS];
    secondReads = new int[MOST_INSTRUCTIONS];
    foresights = new int[MOST_INSTRUCTIONS];
    goings = new boolean[MOST_INSTRUCTIONS];
    toldToFail = new boolean[MOST_INSTRUCTIONS];
    inSlot = new boolean[MOST_INSTRUCTIONS];
    failing = new boolean[MOST_INSTRUCTIONS];
    beginsGroup = new boolean[MOST_INSTRUCTIONS];
    fetchTimes = new int[MOST_INSTRUCTIONS];
    issueTimes = new int[MOST_INSTRUCTIONS];
    doneTimes = new int[MOST_INSTRUCTIONS];
  }

  public int put(int kind, int d, int a, int b) {
    if (kind < 0 || kind > UNREADABLE || kind == BRANCH) {
      return NONE;
    }
    if (!isRegister(d) || !isRegister(a) || !isRegister(b)) {
      return NONE;
    }
    if (kind == UNREADABLE && (d != 0 || a != 0 || b != 0)) {
      return NONE;
    }
    return append(kind, d, a, b, NOT_FORESEEN, false);
  }

  public int branch(int foreseen, boolean goes, int d, int a) {
    if (foreseen < NOT_FORESEEN || foreseen > FORESEEN_NOT_TO_GO) {
      return NONE;
    }
    if (!isRegister(d) || !isRegister(a)) {
      return NONE;
    }
    return append(BRANCH, d, a, 0, foreseen, goes);
  }

  public boolean fail() {
    if (count == 0) {
      return false;
    }
    failLast();
    return true;
  }

  public boolean drop(int n) {
    if (n < 0 || n > count) {
      return false;
    }
    count -= n;
    return true;
  }

  public void clear() {
    count = 0;
  }

  public int again(int i, int n) {
    if (!isInstruction(i) || n < 1 || n > count - i || n > MOST_INSTRUCTIONS - count) {
      return NONE;
    }
    for (int k = i; k < i + n; k++) {
      append(kinds[k], writes[k], firstReads[k], secondReads[k], foresights[k], goings[k]);
      if (toldToFail[k]) {
        failLast();
      }
    }
    return count;
  }

  public int time(int i, int what) {
    if (!isInstruction(i)) {
      return NONE;
    }
    switch (what) {
      case 0:
        return fetchTimes[i];
      case 1:
        return issueTimes[i];
      case 2:
        return doneTimes[i];
      case 3:
        return groupSize(i);
      case 4:
        return oneIf(isIssuedAsSecond(i));
      default:
        return NONE;
    }
  }

  public int of(int i, int what) {
    if (!isInstruction(i)) {
      return NONE;
    }
    switch (what) {
      case 0:
        return kinds[i];
      case 1:
        return writes[i];
      case 2:
        return firstReads[i];
      case 3:
        return secondReads[i];
      case 4:
        return oneIf(failing[i]);
      case 5:
        return oneIf(inSlot[i]);
      case 6:
        return oneIf(isRedirected(i));
      case 7:
        return oneIf(liesBehind(i));
      default:
        return NONE;
    }
  }

  public int stage(int i, int cycle) {
    if (!isInstruction(i) || cycle < 0) {
      return NONE;
    }
    return stageAt(i, cycle);
  }

  public int many(int stage, int cycle) {
    if (stage < WAITING || stage > DONE || cycle < 0) {
      return NONE;
    }
    int found = 0;
    for (int i = 0; i < count; i++) {
      if (stageAt(i, cycle) == stage) {
        found++;
      }
    }
    return found;
  }

  public int look(int which) {
    switch (which) {
      case 0:
        return count;
      case 1:
        return doneBefore(count);
      case 2:
        return cyclesWithTwoDone();
      case 3:
        return longestWayBetweenDone();
      case 4:
        return groups();
      case 5:
        return pairsIssuedAtOnce();
      case 6:
        return mostAtWork();
      default:
        return NONE;
    }
  }

  // The row.

  private static boolean isRegister(int number) {
    return number >= 0 && number <= LAST_REGISTER;
  }

  private boolean isInstruction(int i) {
    return i >= 0 && i < count;
  }

  private static int oneIf(boolean holds) {
    return holds ? 1 : 0;
  }

  private int append(int kind, int d, int a, int b, int foreseen, boolean goes) {
    if (count >= MOST_INSTRUCTIONS) {
      return NONE;
    }
    int i = count;
    kinds[i] = kind;
    writes[i] = d;
    firstReads[i] = a;
    secondReads[i] = b;
    foresights[i] = foreseen;
    goings[i] = goes;
    toldToFail[i] = false;
    count++;
    settle(i);
    return i;
  }

  private void failLast() {
    int last = count - 1;
    if (last >= 0) {
      toldToFail[last] = true;
      settle(last);
    }
  }

  // Each line uses what the lines above it have settled.
  private void settle(int i) {
    inSlot[i] = i > 0 && kinds[i - 1] == BRANCH && !failing[i - 1];
    failing[i] = toldToFail[i] || kinds[i] == UNREADABLE || (kinds[i] == BRANCH && inSlot[i]);
    beginsGroup[i] = !joinsGroup(i);
    fetchTimes[i] = leastFetchTime(i);
    issueTimes[i] = leastIssueTime(i);
    doneTimes[i] = leastDoneTime(i);
  }

  // How an instruction follows the one ahead of it.

  private boolean liesBehind(int i) {
    return i > 0 && !failing[i - 1] && !(isBehindSlot(i) && goings[i - 2]);
  }

  private boolean isRedirected(int i) {
    return isBehindFailingOrSingle(i) || isBehindSlotOfMissedBranch(i);
  }

  private boolean isBehindSlot(int i) {
    return i > 1 && inSlot[i - 1];
  }

  private boolean isBehindFailingOrSingle(int i) {
    return i > 0 && (failing[i - 1] || kinds[i - 1] == SINGLE);
  }

  private boolean isBehindSlotOfMissedBranch(int i) {
    return isBehindSlot(i) && isMissed(i - 2);
  }

  private boolean isMissed(int branch) {
    if (foresights[branch] == NOT_FORESEEN) {
      return true;
    }
    return (foresights[branch] == FORESEEN_TO_GO) != goings[branch];
  }

  // Fetch.

  private boolean joinsGroup(int i) {
    if (i == 0 || !beginsGroup[i - 1]) {
      return false;
    }
    boolean leftByForesight = isBehindSlot(i) && foresights[i - 2] == FORESEEN_TO_GO;
    return liesBehind(i) && !isRedirected(i) && !leftByForesight;
  }

  private int leastFetchTime(int i) {
    if (i == 0) {
      return 1;
    }
    if (!beginsGroup[i]) {
      return fetchTimes[i - 1];
    }
    int least = fetchTimes[i - 1] + 1;
    if (i >= QUEUE_LENGTH) {
      least = Math.max(least, issueTimes[i - QUEUE_LENGTH] + 1);
    }
    if (isBehindFailingOrSingle(i)) {
      least = Math.max(least, doneTimes[i - 1] + 1);
    }
    if (isBehindSlotOfMissedBranch(i)) {
      least = Math.max(least, issueTimes[i - 2] + 2);
    }
    return least;
  }

  private int groupSize(int i) {
    if (!beginsGroup[i]) {
      return 2;
    }
    return i + 1 < count && !beginsGroup[i + 1] ? 2 : 1;
  }

  // Issue.

  private int leastIssueTime(int i) {
    int least = Math.max(fetchTimes[i] + 2, leastInOrder(i));
    least = Math.max(least, whenReadable(firstReads[i], i));
    least = Math.max(least, whenReadable(secondReads[i], i));
    if (kinds[i] == DIVIDE) {
      least = Math.max(least, whenDividerIsFree(i));
    }
    if (kinds[i] == SINGLE) {
      least = Math.max(least, doneBefore(i) + 1);
    }
    return least;
  }

  private int leastInOrder(int i) {
    if (i == 0) {
      return 1;
    }
    boolean placeIsFree = i == 1 || issueTimes[i - 2] < issueTimes[i - 1];
    return placeIsFree && makesPair(i) ? issueTimes[i - 1] : issueTimes[i - 1] + 1;
  }

  // Whether i is the second one of a pair, with the one ahead of it.
  private boolean makesPair(int i) {
    if (i == 0) {
      return false;
    }
    int first = kinds[i - 1];
    int second = kinds[i];
    if (first == SINGLE || second == SINGLE || first == BRANCH) {
      return false;
    }
    if (usesMemory(first) && usesMemory(second)) {
      return false;
    }
    if (usesMultiplier(first) && usesMultiplier(second)) {
      return false;
    }
    return !reads(i, writes[i - 1]);
  }

  private static boolean usesMemory(int kind) {
    return kind == LOAD || kind == STORE;
  }

  private static boolean usesMultiplier(int kind) {
    return kind == MULTIPLY || kind == DIVIDE;
  }

  private boolean reads(int i, int register) {
    return register != 0 && (firstReads[i] == register || secondReads[i] == register);
  }

  // 0 where nothing is waited for: every time is above that.
  private int whenReadable(int register, int reader) {
    if (register == 0) {
      return 0;
    }
    for (int i = reader - 1; i >= 0; i--) {
      if (writes[i] == register && !failing[i]) {
        return issueTimes[i] + delayOf(kinds[i]);
      }
    }
    return 0;
  }

  private static int delayOf(int kind) {
    switch (kind) {
      case LOAD:
        return 2;
      case MULTIPLY:
        return 3;
      case DIVIDE:
        return DIVIDE_DELAY;
      default:
        return 1;
    }
  }

  private int whenDividerIsFree(int divide) {
    for (int i = divide - 1; i >= 0; i--) {
      if (kinds[i] == DIVIDE) {
        return issueTimes[i] + DIVIDE_DELAY;
      }
    }
    return 0;
  }

  private boolean isIssuedAsSecond(int i) {
    return i > 0 && issueTimes[i - 1] == issueTimes[i];
  }

  // Done.

  private int leastDoneTime(int i) {
    int least = Math.max(issueTimes[i] + workOf(kinds[i]), doneBefore(i));
    if (i > 1) {
      least = Math.max(least, doneTimes[i - 2] + 1);
    }
    if (failing[i]) {
      least = Math.max(least, doneBefore(i) + 1);
    }
    return least;
  }

  private static int workOf(int kind) {
    switch (kind) {
      case MULTIPLY:
        return 5;
      case DIVIDE:
        return 20;
      default:
        return 3;
    }
  }

  private int doneBefore(int i) {
    return i > 0 ? doneTimes[i - 1] : 0;
  }

  private int stageAt(int i, int cycle) {
    if (cycle < fetchTimes[i]) {
      return WAITING;
    }
    if (cycle < issueTimes[i]) {
      return QUEUED;
    }
    return cycle < doneTimes[i] ? AT_WORK : DONE;
  }

  // The whole row.

  private int cyclesWithTwoDone() {
    int found = 0;
    for (int i = 1; i < count; i++) {
      if (doneTimes[i] == doneTimes[i - 1]) {
        found++;
      }
    }
    return found;
  }

  private int longestWayBetweenDone() {
    int longest = 0;
    for (int i = 0; i < count; i++) {
      longest = Math.max(longest, doneTimes[i] - doneBefore(i));
    }
    return longest;
  }

  private int groups() {
    int found = 0;
    for (int i = 0; i < count; i++) {
      if (beginsGroup[i]) {
        found++;
      }
    }
    return found;
  }

  private int pairsIssuedAtOnce() {
    int found = 0;
    for (int i = 1; i < count; i++) {
      if (isIssuedAsSecond(i)) {
        found++;
      }
    }
    return found;
  }

  // Issued and done in order, those at work stand side by side, and their number grows only when
  // one is issued.
  private int mostAtWork() {
    int most = 0;
    int oldest = 0;
    for (int i = 0; i < count; i++) {
      while (oldest < i && doneTimes[oldest] <= issueTimes[i]) {
        oldest++;
      }
      most = Math.max(most, i - oldest + 1);
    }
    return most;
  }
}
